import java.math.BigInteger;
import java.util.ArrayList;
import java.util.Arrays;
import java.util.Comparator;
import java.util.List;
import java.util.Random;
import java.util.regex.Matcher;
import java.util.regex.Pattern;

/** Random runs, each call answered by the class and by a second telling of the document, written another way. */
public final class ModelTest {
    private static final int RUNS = 1500;
    private static final int CALLS = 512;

    /** Ships, men, heard and tide, copied whole for every thought. */
    private static final class World {
        List<int[]> ships = new ArrayList<>(); // heavy, loose, out
        List<int[]> men = new ArrayList<>(); // kind, figure, sins, ship
        int heard;
        int tide;

        World copy() {
            World w = new World();
            ships.forEach(s -> w.ships.add(s.clone()));
            men.forEach(m -> w.men.add(m.clone()));
            w.heard = heard;
            w.tide = tide;
            return w;
        }

        World after(int n) {
            World w = copy();
            for (int i = 0; i < n; i++) {
                w.tide();
            }
            return w;
        }

        int worth(int m) {
            int f = men.get(m)[1] + 1;
            int mate = tide % 2 == 1 ? f + f : f;
            return new int[] {f, 0, mate, Math.max(1, f / 2), mate + 3, 0}[men.get(m)[0]];
        }

        int carried(int m) {
            return new int[] {0, 0, 0, 0, worth(m) / 3, 1}[men.get(m)[0]];
        }

        int holds(int s) {
            return ships.get(s)[0] * 3 + 2 + (tide % 2 == 0 ? 2 : 0) + heard / 10;
        }

        boolean in(int s) {
            return ships.get(s)[2] == 0;
        }

        int lacks(int s) {
            return in(s) ? Math.max(0, holds(s) - ships.get(s)[1]) : 0;
        }

        int pool(int s) {
            int sum = 0;
            for (int m = 0; m < men.size(); m++) {
                sum += men.get(m)[3] == s ? men.get(m)[2] * worth(m) : 0;
            }
            return sum;
        }

        boolean can(int m) {
            return men.get(m)[2] > 0 && in(men.get(m)[3]);
        }

        int lift() {
            int n = 0;
            for (int s = 0; s < ships.size(); s++) {
                if (in(s) && ships.get(s)[1] >= holds(s)) {
                    ships.get(s)[1] = 0;
                    ships.get(s)[2] = 3;
                    n++;
                }
            }
            return n;
        }

        /** -1 if he can not. */
        int tell(int m) {
            if (!can(m)) {
                return -1;
            }
            for (int s = 0; s < ships.size(); s++) {
                if (in(s)) {
                    int more = s == men.get(m)[3] ? worth(m) : carried(m);
                    ships.get(s)[1] = Math.min(99, ships.get(s)[1] + more);
                }
            }
            men.get(m)[2]--;
            heard = Math.min(999, heard + 1);
            return lift();
        }

        void tide() {
            for (int[] m : men) {
                if (!in(m[3])) {
                    m[2] = Math.min(9, m[2] + new int[] {1, 0, 1, 2, 1, 0}[m[0]]);
                }
            }
            for (int[] s : ships) {
                s[2] = Math.max(0, s[2] - 1);
            }
            tide++;
        }

        int out() {
            int bits = 0;
            for (int s = 0; s < ships.size(); s++) {
                bits |= in(s) ? 0 : 1 << s;
            }
            return bits;
        }

        int sins() {
            return men.stream().mapToInt(m -> m[2]).sum();
        }

        int risable() {
            int n = 0;
            for (int s = 0; s < ships.size(); s++) {
                n += in(s) && lacks(s) <= pool(s) ? 1 : 0;
            }
            return n;
        }

        /** The words in the order in which they are told; null if they do not lift it. */
        List<Integer> words(int s) {
            List<Integer> all = new ArrayList<>();
            for (int m = 0; m < men.size(); m++) {
                for (int i = 0; men.get(m)[3] == s && i < men.get(m)[2]; i++) {
                    all.add(m);
                }
            }
            all.sort(Comparator.comparing((Integer m) -> -worth(m)).thenComparing(m -> m));
            List<Integer> told = new ArrayList<>();
            int sum = 0;
            for (int m : all) {
                if (sum >= lacks(s)) {
                    break;
                }
                sum += worth(m);
                told.add(m);
            }
            return sum >= lacks(s) ? told : null;
        }

        boolean fits(List<Integer> row) {
            for (int i = 0; i < row.size(); i++) {
                if (i >= ships.size() || row.get(i) != (in(i) ? ships.get(i)[1] : 98)) {
                    return false;
                }
            }
            return true;
        }
    }

    private static final class Model {
        World w = new World();
        World image;
        List<Integer> row = new ArrayList<>();
        StringBuilder text = new StringBuilder();
        int[] refusals = new int[7];

        long no(int number) {
            refusals[-number]++;
            return number;
        }

        boolean noShip(int s) {
            return s < 0 || s >= w.ships.size();
        }

        boolean noMan(int m) {
            return m < 0 || m >= w.men.size();
        }

        long harbour() {
            String t = text.toString();
            text.setLength(0);
            Matcher m = Pattern.compile("(s\\d|m[hpmsab]\\d\\d\\d|t\\d|b\\d\\d|v\\d\\d|w\\d\\d);").matcher(t);
            List<Integer> starts = new ArrayList<>();
            int at = 0;
            while (m.region(at, t.length()).lookingAt()) {
                starts.add(at);
                at = m.end();
            }
            if (at < t.length() || at == 0) {
                // the longest beginning of a statement that stands there
                Pattern p = Pattern.compile("(?:s\\d?|m(?:[hpmsab]\\d{0,3})?|t\\d?|[bvw]\\d{0,2})?");
                Matcher rest = p.matcher(t).region(at, t.length());
                rest.lookingAt();
                return -1000 - rest.end();
            }
            World x = w.copy();
            for (int start : starts) {
                if (!statement(x, t.substring(start, t.indexOf(';', start)))) {
                    return -2000 - start;
                }
            }
            w = x;
            return starts.size();
        }

        boolean statement(World x, String s) {
            int[] d = s.chars().map(c -> c - '0').toArray();
            char c = s.charAt(0);
            if (c == 's') {
                return x.ships.size() < 5 && x.ships.add(new int[] {d[1], 0, 0});
            }
            if (c == 'm') {
                return x.men.size() < 8 && d[4] < x.ships.size()
                    && x.men.add(new int[] {"hpmsab".indexOf(s.charAt(1)), d[2], d[3], d[4]});
            }
            if (c == 'w') {
                int n = Integer.parseInt(s.substring(1));
                for (int i = 0; i < n; i++) {
                    x.tide();
                }
                return n >= 1 && n <= 60 && x.tide <= 999;
            }
            if (d[1] >= x.men.size()) {
                return false;
            }
            if (c == 't') {
                return x.tell(d[1]) >= 0;
            }
            if (c == 'v') {
                x.men.get(d[1])[2] = d[2];
                return true;
            }
            x.men.get(d[1])[3] = d[2];
            return d[2] < x.ships.size();
        }

        long ship(int s, int what) {
            if (noShip(s)) {
                return no(-1);
            }
            if (what < 0 || what > 6) {
                return no(-2);
            }
            int crew = 0;
            for (int m = 0; m < w.men.size(); m++) {
                crew |= w.men.get(m)[3] == s ? 1 << m : 0;
            }
            int[] x = w.ships.get(s);
            return new int[] {x[0], x[1], x[2], w.holds(s), w.lacks(s), w.pool(s), crew}[what];
        }

        long man(int m, int what) {
            if (noMan(m)) {
                return no(-1);
            }
            if (what < 0 || what > 6) {
                return no(-2);
            }
            int[] x = w.men.get(m);
            return new int[] {x[0], x[1], x[2], x[3], w.worth(m), w.carried(m), w.can(m) ? 1 : 0}[what];
        }

        long set(int[] of, int index, int v) {
            if (v < 0 || v > 9) {
                return no(v < 0 ? -4 : -6);
            }
            int before = of[index];
            of[index] = v;
            return before;
        }

        long turn(int m, int kind, int figure) {
            if (noMan(m) || kind < 0 || kind > 5) {
                return no(noMan(m) ? -1 : -2);
            }
            int before = w.men.get(m)[0];
            long f = set(w.men.get(m), 1, figure);
            if (f < 0) {
                return f;
            }
            w.men.get(m)[0] = kind;
            return 10 * before + f;
        }

        long tides(int n) {
            if (n < 1) {
                return no(-4);
            }
            if (n > 60 || w.tide + n > 999) {
                return no(-6);
            }
            w = w.after(n);
            return w.out();
        }

        long shipThen(int s, int n, int what) {
            if (noShip(s)) {
                return no(-1);
            }
            if (n < 0 || n > 60) {
                return no(n < 0 ? -4 : -6);
            }
            if (what < 0 || what > 1) {
                return no(-2);
            }
            return what == 0 ? w.after(n).ships.get(s)[2] : w.after(n).holds(s);
        }

        long sinsThen(int m, int n) {
            if (noMan(m)) {
                return no(-1);
            }
            return n < 0 ? no(-4) : n > 60 ? no(-6) : w.after(n).men.get(m)[2];
        }

        long fixture() {
            int bits = 0;
            for (int s = 0; s < w.ships.size(); s++) {
                bits |= w.in(s) && w.pool(s) < w.lacks(s) ? 1 << s : 0;
            }
            return bits;
        }

        long fewest(int s, int what) {
            if (noShip(s)) {
                return no(-1);
            }
            if (what < 0 || what > 1) {
                return no(-2);
            }
            if (!w.in(s)) {
                return no(-3);
            }
            List<Integer> words = w.words(s);
            if (words == null || what == 0) {
                return words == null ? -9 : words.size();
            }
            int best = -9;
            for (int m = 7; m >= 0; m--) {
                int least = m;
                long n = words.stream().filter(x -> x == least).count();
                int most = best;
                if (n > 0 && n >= words.stream().filter(x -> x == most).count()) {
                    best = m;
                }
            }
            return best;
        }

        long when(int s, int v) {
            if (noShip(s)) {
                return no(-1);
            }
            if (v < 0 || v > 20) {
                return no(v < 0 ? -4 : -6);
            }
            for (int n = 0; n <= 60; n++) {
                World x = w.after(n);
                if (x.in(s) && x.words(s) != null && x.words(s).size() <= v) {
                    return n;
                }
            }
            return -9;
        }

        long cheapest() {
            int best = -9;
            for (int s = w.ships.size() - 1; s >= 0; s--) {
                if (w.in(s) && w.words(s) != null && (best < 0 || w.words(s).size() <= w.words(best).size())) {
                    best = s;
                }
            }
            return best;
        }

        long berth(int m) {
            if (noMan(m)) {
                return no(-1);
            }
            int best = -9;
            int most = w.risable();
            for (int s = 0; s < w.ships.size(); s++) {
                World x = w.copy();
                x.men.get(m)[3] = s;
                if (x.in(s) && x.risable() > most) {
                    most = x.risable();
                    best = s;
                }
            }
            return best;
        }

        long deal() {
            int best = -9;
            int most = w.risable();
            for (int pair = 0; pair < 100; pair++) {
                int a = pair / 10;
                int b = pair % 10;
                if (a < b && b < w.men.size() && w.men.get(a)[3] != w.men.get(b)[3]) {
                    World x = w.copy();
                    x.men.get(a)[3] = w.men.get(b)[3];
                    x.men.get(b)[3] = w.men.get(a)[3];
                    if (x.risable() > most) {
                        most = x.risable();
                        best = pair;
                    }
                }
            }
            return best;
        }

        long hush() {
            int bits = 0;
            for (int m = 0; m < w.men.size(); m++) {
                int s = w.men.get(m)[3];
                World x = w.copy();
                x.men.get(m)[2] = 0;
                bits |= w.in(s) && w.pool(s) >= w.lacks(s) && x.pool(s) < x.lacks(s) ? 1 << m : 0;
            }
            return bits;
        }

        long loudest(int what) {
            if (what < 0 || what > 1) {
                return no(-2);
            }
            int best = -9;
            int most = -9;
            for (int m = w.men.size() - 1; m >= 0; m--) {
                int n = w.copy().tell(m);
                if (n >= 0 && n >= most) {
                    best = m;
                    most = n;
                }
            }
            return what == 0 ? best : most;
        }

        long spree(int what) {
            if (what < 0 || what > 1) {
                return no(-2);
            }
            World x = w.copy();
            for (int m = 0; m < w.men.size(); m++) {
                x.tell(m);
            }
            return what == 0 ? Integer.bitCount(x.out()) : x.heard;
        }

        long keep(int m) {
            if (noMan(m) || !w.can(m)) {
                return no(noMan(m) ? -1 : -3);
            }
            World now = w.copy();
            World then = w.after(1);
            boolean rises = (now.tell(m) | then.tell(m)) < 0;
            int s = w.men.get(m)[3];
            return !rises && now.lacks(s) > then.lacks(s) ? 0 : 1;
        }

        long richest(int what) {
            if (what < 0 || what > 1) {
                return no(-2);
            }
            int best = -9;
            int most = 0;
            for (int m = w.men.size() - 1; m >= 0; m--) {
                int v = what == 0 ? w.men.get(m)[2] : w.worth(m);
                if (v >= most) {
                    best = m;
                    most = v;
                }
            }
            return best;
        }

        long blameless() {
            int bits = (1 << w.ships.size()) - 1;
            for (int[] m : w.men) {
                bits &= m[2] > 0 ? ~(1 << m[3]) : -1;
            }
            return bits;
        }

        long ebb(int s) {
            if (noShip(s)) {
                return 1000000000L - no(-1);
            }
            World x = w.copy();
            x.tide++;
            return x.pool(s) - w.pool(s);
        }

        long missing() {
            int sum = 0;
            for (int s = 0; s < w.ships.size(); s++) {
                sum += w.in(s) ? Math.max(0, w.lacks(s) - w.pool(s)) : 0;
            }
            return sum;
        }

        int[] gains(int a, int b, int x, int y) {
            World v = w.copy();
            boolean first = x == 1 && v.tell(a) >= 0;
            boolean other = y == 1 && v.tell(b) >= 0;
            int ofA = (v.in(v.men.get(a)[3]) ? 0 : 3) - (first ? 1 : 0);
            int ofB = (v.in(v.men.get(b)[3]) ? 0 : 3) - (other ? 1 : 0);
            return new int[] {ofA, ofB};
        }

        long two(int a, int b) {
            if (noMan(a) || noMan(b) || a == b) {
                return no(-1);
            }
            if (!w.can(a) || !w.can(b)) {
                return no(-3);
            }
            for (int pair : new int[] {0, 1, 10, 11}) {
                int x = pair / 10;
                int y = pair % 10;
                if (gains(a, b, x, y)[0] >= gains(a, b, 1 - x, y)[0] && gains(a, b, x, y)[1] >= gains(a, b, x, 1 - y)[1]) {
                    return pair;
                }
            }
            return -9;
        }

        long ways(World x, int s, int n, int t) {
            if (n == 0) {
                return x.in(s) ? 0 : 1;
            }
            World storm = x.copy();
            for (int[] ship : storm.ships) {
                ship[1] += ship[2] == 0 ? 2 : 0;
            }
            storm.lift();
            return ways(storm.after(1), s, n - 1, t) + (t - 1) * ways(x.after(1), s, n - 1, t);
        }

        long part(long above, long below, int part) {
            BigInteger a = BigInteger.valueOf(above);
            BigInteger b = BigInteger.valueOf(below);
            return (part == 0 ? a : b).divide(a.gcd(b)).longValueExact();
        }

        long storm(int s, int n, int t, int part) {
            int fault = noShip(s) ? -1 : n < 0 || t < 2 ? -4 : n > 7 || t > 20 ? -6 : part < 0 || part > 1 ? -2 : 0;
            if (fault != 0) {
                return 4000000000000000000L - no(fault);
            }
            return part(ways(w, s, n, t), BigInteger.valueOf(t).pow(n).longValueExact(), part);
        }

        long mean(int part) {
            if (part < 0 || part > 1) {
                return 4000000000000000000L - no(-2);
            }
            return w.men.isEmpty() ? part : part(w.sins(), w.men.size(), part);
        }

        long whoTold() {
            int bits = 0;
            for (int m = 0; m < w.men.size(); m++) {
                World x = w.copy();
                bits |= x.tell(m) >= 0 && x.fits(row) ? 1 << m : 0;
            }
            return bits;
        }

        long whatIs(int m, int what) {
            if (noMan(m) || what < 0 || what > 1) {
                return no(noMan(m) ? -1 : -2);
            }
            int bits = 0;
            for (int i = 0; i < (what == 0 ? 6 : 10); i++) {
                World x = w.copy();
                x.men.get(m)[what] = i;
                bits |= x.tell(m) >= 0 && x.fits(row) ? 1 << i : 0;
            }
            return bits;
        }

        long judge() {
            int answer = -9;
            for (int i = row.size() - 1; i >= 0; i--) {
                answer = noShip(i) || w.holds(i) != row.get(i) ? i : answer;
            }
            row.clear();
            return answer;
        }

        long lots(int n, int z, int what) {
            int fault = n < 1 ? -4 : n > 20 ? -6 : what < 0 || what > 1 ? -2 : w.men.isEmpty() ? -3 : 0;
            if (fault != 0) {
                return no(fault);
            }
            long sum = 0;
            for (int i = 0; i < n; i++) {
                World x = w.copy();
                for (int j = 0; j < 12; j++) {
                    z = z * 1664525 + 1013904223;
                    int lifted = x.tell((z & 0x7fffffff) / 256 % w.men.size());
                    sum += what == 0 ? Math.max(0, lifted) : 0;
                    x = x.after(1);
                }
                sum += what == 1 ? x.sins() : 0;
            }
            return sum;
        }

        long count(int what) {
            if (what >= 11 && what <= 16) {
                return refusals[what - 10];
            }
            if (what < 0 || what > 7) {
                return -9;
            }
            return new int[] {w.ships.size(), w.men.size(), w.tide, w.heard, w.out(), w.sins(), row.size(),
                text.length()}[what];
        }
    }

    private static long asked(Model y, int call, int a, int b, int c, int d) {
        World w = y.w;
        switch (call) {
            case 0:
                if (a < 0 || a > 255 || y.text.length() >= 96) {
                    return y.no(a < 0 ? -4 : -6);
                }
                return y.text.append((char) a).length();
            case 1: return y.harbour();
            case 2: return y.ship(a, b);
            case 3: return y.man(a, b);
            case 4: return y.noMan(a) ? y.no(-1) : !w.can(a) ? y.no(-3) : w.tell(a);
            case 5:
                return y.noMan(a) || y.noShip(b) ? y.no(-1) : y.set(w.men.get(a), 3, b);
            case 6: return y.noMan(a) ? y.no(-1) : y.set(w.men.get(a), 2, b);
            case 7: return y.noShip(a) ? y.no(-1) : y.set(w.ships.get(a), 0, b);
            case 8: return y.turn(a, b, c);
            case 9: return y.tides(a);
            case 10: return y.shipThen(a, b, c);
            case 11: return y.sinsThen(a, b);
            case 12: return y.fixture();
            case 13: return y.fewest(a, b);
            case 14: return y.when(a, b);
            case 15: return y.cheapest();
            case 16: return y.berth(a);
            case 17: return w.risable();
            case 18: return y.deal();
            case 19: return y.hush();
            case 20: return y.loudest(a);
            case 21: return y.spree(a);
            case 22: return y.keep(a);
            case 23: return y.richest(a);
            case 24: return y.blameless();
            case 25: return y.ebb(a);
            case 26: return y.missing();
            case 27: return y.two(a, b);
            case 28: return y.storm(a, b, c, d);
            case 29: return y.mean(a);
            case 30: return y.whoTold();
            case 31: return y.whatIs(a, b);
            case 32:
                if (a < 0 || a > 99 || y.row.size() >= 16) {
                    return y.no(a < 0 ? -4 : -6);
                }
                y.row.add(a);
                return y.row.size();
            case 33: return y.judge();
            case 34:
                int size = y.row.size();
                y.row.clear();
                return size;
            case 35: return y.lots(a, b, c);
            case 36:
                y.image = w.copy();
                return w.tide;
            case 37:
                if (y.image == null) {
                    return y.no(-3);
                }
                y.w = y.image.copy();
                return y.w.tide;
            default: return y.count(a);
        }
    }

    private static long answered(AnchorsForConfession x, int call, int a, int b, int c, int d) {
        switch (call) {
            case 0: return x.letter(a);
            case 1: return x.harbour();
            case 2: return x.ship(a, b);
            case 3: return x.man(a, b);
            case 4: return x.tells(a);
            case 5: return x.boards(a, b);
            case 6: return x.sins(a, b);
            case 7: return x.loads(a, b);
            case 8: return x.turn(a, b, c);
            case 9: return x.tides(a);
            case 10: return x.shipThen(a, b, c);
            case 11: return x.sinsThen(a, b);
            case 12: return x.fixture();
            case 13: return x.fewest(a, b);
            case 14: return x.when(a, b);
            case 15: return x.cheapest();
            case 16: return x.berth(a);
            case 17: return x.rise();
            case 18: return x.deal();
            case 19: return x.hush();
            case 20: return x.loudest(a);
            case 21: return x.spree(a);
            case 22: return x.keep(a);
            case 23: return x.richest(a);
            case 24: return x.blameless();
            case 25: return x.ebb(a);
            case 26: return x.missing();
            case 27: return x.two(a, b);
            case 28: return x.storm(a, b, c, d);
            case 29: return x.mean(a);
            case 30: return x.whoTold();
            case 31: return x.whatIs(a, b);
            case 32: return x.row(a);
            case 33: return x.judge();
            case 34: return x.clear();
            case 35: return x.lots(a, b, c);
            case 36: return x.image();
            case 37: return x.on();
            default: return x.count(a);
        }
    }

    private static final int[] ODD = {-1, -2, 5, 8, 9, 10, 20, 21, 60, 61, 99, 100, 255, 256, 511, 1000,
        Integer.MAX_VALUE, Integer.MIN_VALUE, Integer.MIN_VALUE + 1, 1 << 30};

    /** Mostly a number that fits, at times one that does not. */
    private static int number(Random r, int below) {
        return r.nextInt(25) == 0 ? ODD[r.nextInt(ODD.length)] : r.nextInt(below);
    }

    private static int first(Random r, int call) {
        switch (call) {
            case 0: return number(r, 256);
            case 2: case 7: case 10: case 13: case 14: case 25: case 28: return number(r, 5);
            case 9: return r.nextInt(3) == 0 ? number(r, 61) : number(r, 4);
            case 20: case 21: case 23: case 29: return number(r, 2);
            case 32: return number(r, 100);
            case 35: return number(r, 20) + 1;
            case 38: return number(r, 18);
            default: return number(r, 8);
        }
    }

    private static int second(Random r, int call) {
        switch (call) {
            case 2: case 3: return number(r, 7);
            case 5: return number(r, 5);
            case 6: case 7: return number(r, 10);
            case 8: return number(r, 6);
            case 10: case 11: return r.nextInt(2) == 0 ? number(r, 61) : number(r, 5);
            case 13: case 31: return number(r, 2);
            case 14: return r.nextInt(2) == 0 ? number(r, 21) : number(r, 4);
            case 35: return r.nextInt();
            default: return number(r, 8);
        }
    }

    private static int third(Random r, int call) {
        return call == 8 ? number(r, 10) : call == 28 ? number(r, 19) + 2 : number(r, 2);
    }

    private static String statement(Random r) {
        int d = r.nextInt(3) == 0 ? 10 : 4;
        switch (r.nextInt(14)) {
            case 0: case 1: case 2: return "s" + r.nextInt(d) + ";";
            case 3: case 4: case 5: case 6: case 7: case 8:
                return "m" + "hpmsab".charAt(r.nextInt(6)) + r.nextInt(10) + r.nextInt(10) + r.nextInt(3) + ";";
            case 9: case 10: return "t" + r.nextInt(4) + ";";
            case 11: return "b" + r.nextInt(4) + r.nextInt(3) + ";";
            case 12: return "v" + r.nextInt(4) + r.nextInt(10) + ";";
            default: return "w" + r.nextInt(r.nextInt(3) == 0 ? 7 : 1) + r.nextInt(10) + ";";
        }
    }

    private static String text(Random r) {
        StringBuilder text = new StringBuilder();
        int n = r.nextInt(r.nextInt(4) == 0 ? 20 : 5);
        for (int i = 0; i < n; i++) {
            text.append(statement(r));
        }
        if (r.nextInt(6) == 0 && text.length() > 0) {
            int at = r.nextInt(text.length());
            int way = r.nextInt(3);
            if (way == 0) {
                text.setLength(at);
            } else if (way == 1) {
                text.deleteCharAt(at);
            } else {
                text.setCharAt(at, "smtbvwhpa0159;: ".charAt(r.nextInt(16)));
            }
        }
        return text.toString();
    }

    private static boolean differs(AnchorsForConfession x, Model y, int seed, int call, int... v) {
        long due = asked(y, call, v[0], v[1], v[2], v[3]);
        long got = answered(x, call, v[0], v[1], v[2], v[3]);
        if (got != due) {
            System.out.println("seed " + seed + ": call " + call + " of " + Arrays.toString(v) + " answered " + got
                + ", due is " + due);
        }
        return got != due;
    }

    /** How many of the answers differ; a run ends at the first. */
    private static int run(int seed) {
        Random r = new Random(seed);
        AnchorsForConfession x = new AnchorsForConfession();
        Model y = new Model();
        int calls = 0;
        String start = r.nextInt(4) == 0 ? "" : "s" + r.nextInt(4) + ";s" + r.nextInt(4) + ";s" + r.nextInt(10) + ";";
        while (calls < CALLS) {
            if (calls == 0 || r.nextInt(40) == 0) {
                String text = start + text(r);
                start = "";
                for (int i = 0; i < text.length() && calls < CALLS; i++, calls++) {
                    if (differs(x, y, seed, 0, text.charAt(i), 0, 0, 0)) {
                        return 1;
                    }
                }
                calls++;
                if (differs(x, y, seed, 1, 0, 0, 0, 0)) {
                    return 1;
                }
                continue;
            }
            int call = r.nextInt(39);
            if (call == 0 && r.nextInt(4) > 0 || call == 37 && r.nextInt(3) > 0) {
                call = 4;
            }
            if (call == 32 && r.nextInt(2) == 0) {
                calls += fill(r, x, y);
            }
            calls++;
            if (differs(x, y, seed, call, first(r, call), second(r, call), third(r, call), number(r, 2))) {
                return 1;
            }
        }
        return 0;
    }

    /** A row that some word would make true, or what the ships hold. */
    private static int fill(Random r, AnchorsForConfession x, Model y) {
        World w = y.w.copy();
        boolean holds = r.nextInt(3) == 0;
        if (!w.men.isEmpty() && !holds) {
            w.tell(r.nextInt(w.men.size()));
        }
        y.row.clear();
        x.clear();
        for (int s = 0; s < w.ships.size(); s++) {
            int v = Math.min(99, holds ? w.holds(s) : w.in(s) ? w.ships.get(s)[1] : 98);
            y.row.add(v);
            x.row(v);
        }
        return w.ships.size() + 1;
    }

    public static void main(String[] args) {
        int wrong = 0;
        for (int seed = 0; seed < RUNS && wrong < 10; seed++) {
            wrong += run(seed);
        }
        System.out.println(wrong == 0 ? "all runs are as the model's" : wrong + " runs differ");
        if (wrong != 0) {
            System.exit(1);
        }
    }
}
