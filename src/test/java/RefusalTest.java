import java.util.ArrayList;
import java.util.Arrays;
import java.util.List;

/**
 * Each refusal of each promise: every argument from far below its least to far above its greatest, all of them
 * together, so that two and more refusals fit at once and the order decides. Behind each refused call all is as it
 * was, but for the one more of that refusal.
 */
public final class RefusalTest {
    private static final int MIN = Integer.MIN_VALUE;
    private static final int MAX = Integer.MAX_VALUE;

    private static final int[] SHIP = {MIN, -1, 0, 1, 4, 5, 8, MAX};
    private static final int[] MAN = {MIN, -1, 0, 1, 2, 7, 8, MAX};
    private static final int[] FROM_0_TO_9 = {MIN, -1, 0, 9, 10, MAX};
    private static final int[] FROM_0_TO_60 = {MIN, -1, 0, 60, 61, MAX};
    private static final int[] WHAT_OF_2 = {MIN, -1, 0, 1, 2, MAX};
    private static final int[] WHAT_OF_7 = {MIN, -1, 0, 6, 7, MAX};

    private interface Call {
        long answer(AnchorsForConfession x, int[] a);
    }

    /** The number of the refusal that is due, 0 for none. */
    private interface Refusal {
        int due(int[] a);
    }

    private static int wrong = 0;
    private static int calls = 0;

    public static void main(String[] args) {
        ofWords();
        ofChanges();
        ofQuestions();
        ofOdds();
        ofOneTold();
        full();
        tideAtItsEnd();
        nobodyThere();
        noImage();
        otherCounts();
        System.out.println(wrong == 0 ? "all refusals are as told, " + calls + " calls" : wrong + " answers are not as due");
        if (wrong != 0) {
            System.exit(1);
        }
    }

    /** 5 ships, ship 0 out; 8 men: 0 can tell, 1 has no sin, 2 is on the ship that is out, 7 can tell. */
    private static AnchorsForConfession aHarbour() {
        AnchorsForConfession x = new AnchorsForConfession();
        say(x, "s0;s3;s9;s2;s1;mh431;mh501;mh920;mm322;ms232;ma123;mb014;mp214;");
        x.image();
        say(x, "t2;t3;w02;");
        x.row(98);
        x.row(0);
        letters(x, "w01");
        return x;
    }

    private static void say(AnchorsForConfession x, String text) {
        letters(x, text);
        if (x.harbour() < 0) {
            fail("the harbour " + text + " has a fault");
        }
    }

    private static void letters(AnchorsForConfession x, String text) {
        for (char c : text.toCharArray()) {
            x.letter(c);
        }
    }

    private static boolean ship(int s) {
        return s >= 0 && s < 5;
    }

    private static boolean man(int m) {
        return m >= 0 && m < 8;
    }

    private static boolean canNotTell(int m) {
        return m == 1 || m == 2;
    }

    private static boolean oneOf2(int what) {
        return what == 0 || what == 1;
    }

    private static int range(int v, int least, int greatest) {
        return v < least ? -4 : v > greatest ? -6 : 0;
    }

    private static int first(int... refusals) {
        for (int r : refusals) {
            if (r != 0) {
                return r;
            }
        }
        return 0;
    }

    private static int nobody(boolean there) {
        return there ? 0 : -1;
    }

    private static int other(boolean fits) {
        return fits ? 0 : -2;
    }

    private static int state(boolean asItMust) {
        return asItMust ? 0 : -3;
    }

    private static void ofWords() {
        every("letter", (x, a) -> x.letter(a[0]), a -> range(a[0], 0, 255), new int[] {MIN, -1, 0, 255, 256, MAX});
        every("row", (x, a) -> x.row(a[0]), a -> range(a[0], 0, 99), new int[] {MIN, -1, 0, 99, 100, MAX});
        every("tells", (x, a) -> x.tells(a[0]), a -> first(nobody(man(a[0])), state(!canNotTell(a[0]))), MAN);
    }

    private static void ofChanges() {
        every("boards", (x, a) -> x.boards(a[0], a[1]), a -> nobody(man(a[0]) && ship(a[1])), MAN, SHIP);
        every("sins", (x, a) -> x.sins(a[0], a[1]), a -> first(nobody(man(a[0])), range(a[1], 0, 9)), MAN, FROM_0_TO_9);
        every("loads", (x, a) -> x.loads(a[0], a[1]), a -> first(nobody(ship(a[0])), range(a[1], 0, 9)), SHIP, FROM_0_TO_9);
        every("turn", (x, a) -> x.turn(a[0], a[1], a[2]),
            a -> first(nobody(man(a[0])), other(a[1] >= 0 && a[1] < 6), range(a[2], 0, 9)),
            MAN, new int[] {MIN, -1, 0, 5, 6, MAX}, FROM_0_TO_9);
        every("tides", (x, a) -> x.tides(a[0]), a -> range(a[0], 1, 60), new int[] {MIN, -1, 0, 1, 60, 61, MAX});
    }

    private static void ofQuestions() {
        every("ship", (x, a) -> x.ship(a[0], a[1]),
            a -> first(nobody(ship(a[0])), other(a[1] >= 0 && a[1] <= 6)), SHIP, WHAT_OF_7);
        every("man", (x, a) -> x.man(a[0], a[1]),
            a -> first(nobody(man(a[0])), other(a[1] >= 0 && a[1] <= 6)), MAN, WHAT_OF_7);
        every("shipThen", (x, a) -> x.shipThen(a[0], a[1], a[2]),
            a -> first(nobody(ship(a[0])), range(a[1], 0, 60), other(oneOf2(a[2]))), SHIP, FROM_0_TO_60, WHAT_OF_2);
        every("sinsThen", (x, a) -> x.sinsThen(a[0], a[1]),
            a -> first(nobody(man(a[0])), range(a[1], 0, 60)), MAN, FROM_0_TO_60);
        every("fixture", (x, a) -> x.fixture(), a -> 0);
        every("fewest", (x, a) -> x.fewest(a[0], a[1]),
            a -> first(nobody(ship(a[0])), other(oneOf2(a[1])), state(a[0] != 0)), SHIP, WHAT_OF_2);
        every("when", (x, a) -> x.when(a[0], a[1]),
            a -> first(nobody(ship(a[0])), range(a[1], 0, 20)), SHIP, new int[] {MIN, -1, 0, 20, 21, MAX});
        every("cheapest", (x, a) -> x.cheapest(), a -> 0);
        every("berth", (x, a) -> x.berth(a[0]), a -> nobody(man(a[0])), MAN);
        every("rise", (x, a) -> x.rise(), a -> 0);
        every("deal", (x, a) -> x.deal(), a -> 0);
        every("hush", (x, a) -> x.hush(), a -> 0);
        every("loudest", (x, a) -> x.loudest(a[0]), a -> other(oneOf2(a[0])), WHAT_OF_2);
        every("spree", (x, a) -> x.spree(a[0]), a -> other(oneOf2(a[0])), WHAT_OF_2);
        every("keep", (x, a) -> x.keep(a[0]), a -> first(nobody(man(a[0])), state(!canNotTell(a[0]))), MAN);
        every("richest", (x, a) -> x.richest(a[0]), a -> other(oneOf2(a[0])), WHAT_OF_2);
        every("blameless", (x, a) -> x.blameless(), a -> 0);
        every("missing", (x, a) -> x.missing(), a -> 0);
        every("two", (x, a) -> x.two(a[0], a[1]),
            a -> first(nobody(man(a[0]) && man(a[1]) && a[0] != a[1]), state(!canNotTell(a[0]) && !canNotTell(a[1]))),
            MAN, MAN);
    }

    private static void ofOdds() {
        every("ebb", 1000000000L, (x, a) -> x.ebb(a[0]), a -> nobody(ship(a[0])), SHIP);
        every("storm", 4000000000000000000L, (x, a) -> x.storm(a[0], a[1], a[2], a[3]),
            a -> first(nobody(ship(a[0])), a[1] < 0 || a[2] < 2 ? -4 : 0, a[1] > 7 || a[2] > 20 ? -6 : 0,
                other(oneOf2(a[3]))),
            SHIP, new int[] {MIN, -1, 0, 7, 8, MAX}, new int[] {MIN, -1, 0, 1, 2, 20, 21, MAX}, WHAT_OF_2);
        every("mean", 4000000000000000000L, (x, a) -> x.mean(a[0]), a -> other(oneOf2(a[0])), WHAT_OF_2);
        every("lots", (x, a) -> x.lots(a[0], a[1], a[2]),
            a -> first(range(a[0], 1, 20), other(oneOf2(a[2]))),
            new int[] {MIN, -1, 0, 1, 20, 21, MAX}, new int[] {MIN, -1, 0, 1, MAX}, WHAT_OF_2);
    }

    private static void ofOneTold() {
        every("whoTold", (x, a) -> x.whoTold(), a -> 0);
        every("whatIs", (x, a) -> x.whatIs(a[0], a[1]), a -> first(nobody(man(a[0])), other(oneOf2(a[1]))), MAN, WHAT_OF_2);
        every("judge", (x, a) -> x.judge(), a -> 0);
        every("clear", (x, a) -> x.clear(), a -> 0);
        every("image", (x, a) -> x.image(), a -> 0);
        every("on", (x, a) -> x.on(), a -> 0);
    }

    private static void every(String name, Call call, Refusal refusal, int[]... values) {
        every(name, 0, call, refusal, values);
    }

    /** The call with each value of each argument, each time on a new harbour. */
    private static void every(String name, long from, Call call, Refusal refusal, int[]... values) {
        int[] at = new int[values.length];
        boolean more = true;
        while (more) {
            int[] a = new int[values.length];
            for (int i = 0; i < a.length; i++) {
                a[i] = values[i][at[i]];
            }
            int due = refusal.due(a);
            AnchorsForConfession x = aHarbour();
            look(name + Arrays.toString(a), x, from, call, a, due);
            if (due != 0) {
                asItWas(name + Arrays.toString(a), x);
            }
            more = false;
            for (int i = 0; i < at.length && !more; i++) {
                at[i] = (at[i] + 1) % values[i].length;
                more = at[i] != 0;
            }
        }
    }

    private static void look(String name, AnchorsForConfession x, long from, Call call, int[] a, int due) {
        calls++;
        int[] before = refusals(x);
        List<Integer> all = all(x);
        long answer = call.answer(x, a);
        int[] behind = refusals(x);
        if (due == 0) {
            if (!Arrays.equals(before, behind)) {
                fail(name + " is not refused, but one is counted");
            }
            if (from == 0 ? answer < 0 && answer != -9 : answer > from / 2) {
                fail(name + " answered " + answer + ", a refusal");
            }
            return;
        }
        long told = from == 0 ? due : from - due;
        if (answer != told) {
            fail(name + " answered " + answer + ", due is " + told);
        }
        before[-due - 1]++;
        if (!Arrays.equals(before, behind)) {
            fail(name + " counted " + Arrays.toString(behind) + ", due is " + Arrays.toString(before));
        }
        if (!all(x).equals(all)) {
            fail(name + " changed what there is");
        }
    }

    /** What all(x) does not show, of what aHarbour made: the letters, the image, the row. */
    private static void asItWas(String name, AnchorsForConfession x) {
        x.letter(';');
        if (x.harbour() != 1 || x.count(2) != 3) {
            fail(name + " changed the letters");
        }
        x.on();
        if (x.count(0) != 5 || x.count(1) != 8 || x.count(2) != 0 || x.count(3) != 0 || x.count(4) != 0
            || x.count(5) != 14) {
            fail(name + " changed the image");
        }
        if (x.count(6) != 2 || x.whoTold() != 4 || x.judge() != 0) {
            fail(name + " changed the row");
        }
    }

    /** What ships, men and the counts but those of refusals say. */
    private static List<Integer> all(AnchorsForConfession x) {
        List<Integer> all = new ArrayList<>();
        for (int s = 0; s < x.count(0); s++) {
            for (int what = 0; what <= 6; what++) {
                all.add(x.ship(s, what));
            }
        }
        for (int m = 0; m < x.count(1); m++) {
            for (int what = 0; what <= 6; what++) {
                all.add(x.man(m, what));
            }
        }
        for (int what = 0; what <= 7; what++) {
            all.add(x.count(what));
        }
        return all;
    }

    private static int[] refusals(AnchorsForConfession x) {
        int[] counts = new int[6];
        for (int i = 0; i < 6; i++) {
            counts[i] = x.count(11 + i);
        }
        return counts;
    }

    /** No room for a letter more, a number more: -4 stays ahead of -6. */
    private static void full() {
        for (int c : new int[] {MIN, -1, 0, 255, 256, MAX}) {
            AnchorsForConfession x = new AnchorsForConfession();
            for (int i = 1; i <= 95; i++) {
                x.letter('w');
            }
            due("letter 96", x.letter('w'), 96);
            look("letter(" + c + ") of 97", x, 0, (y, a) -> y.letter(a[0]), new int[] {c}, c < 0 ? -4 : -6);
            due("letters", x.count(7), 96);
        }
        for (int v : new int[] {MIN, -1, 0, 99, 100, MAX}) {
            AnchorsForConfession x = new AnchorsForConfession();
            for (int i = 1; i <= 15; i++) {
                x.row(7);
            }
            due("number 16", x.row(7), 16);
            look("row(" + v + ") of 17", x, 0, (y, a) -> y.row(a[0]), new int[] {v}, v < 0 ? -4 : -6);
            due("numbers", x.count(6), 16);
        }
    }

    private static void tideAtItsEnd() {
        for (int left = 0; left <= 60; left++) {
            AnchorsForConfession x = new AnchorsForConfession();
            for (int i = 0; i < 15; i++) {
                x.tides(60);
            }
            if (left < 60) {
                x.tides(60 - left);
            }
            x.tides(39);
            due("TIDE", x.count(2), 999 - left);
            look("tides(" + (left + 1) + ") of " + left, x, 0, (y, a) -> y.tides(a[0]), new int[] {left + 1}, -6);
            look("tides(0) of " + left, x, 0, (y, a) -> y.tides(a[0]), new int[] {0}, -4);
            due("TIDE stays", x.count(2), 999 - left);
            if (left > 0) {
                due("tides(" + left + ")", x.tides(left), 0);
                due("TIDE", x.count(2), 999);
            }
        }
    }

    /** Nothing is there yet, then ships without men. */
    private static void nobodyThere() {
        for (String text : new String[] {"", "s2;s3;"}) {
            int[] zero = {0, 0};
            Call[] ofMen = {
                (x, a) -> x.man(0, 9), (x, a) -> x.tells(0), (x, a) -> x.boards(0, 0), (x, a) -> x.sins(0, 10),
                (x, a) -> x.turn(0, 9, 10), (x, a) -> x.sinsThen(0, 61), (x, a) -> x.berth(0), (x, a) -> x.keep(0),
                (x, a) -> x.two(0, 1), (x, a) -> x.whatIs(0, 9),
            };
            for (int i = 0; i < ofMen.length; i++) {
                look("call " + i + " of no man behind " + text, with(text), 0, ofMen[i], zero, -1);
            }
            look("lots behind " + text, with(text), 0, (x, a) -> x.lots(1, 1, 1), zero, -3);
            look("lots of 20 behind " + text, with(text), 0, (x, a) -> x.lots(20, 1, 0), zero, -3);
            look("lots of 0 behind " + text, with(text), 0, (x, a) -> x.lots(0, 1, 2), zero, -4);
            look("lots of 21 behind " + text, with(text), 0, (x, a) -> x.lots(21, 1, 2), zero, -6);
            look("lots of what 2 behind " + text, with(text), 0, (x, a) -> x.lots(20, 1, 2), zero, -2);
        }
        Call[] ofShips = {
            (x, a) -> x.ship(0, 9), (x, a) -> x.loads(0, 10), (x, a) -> x.shipThen(0, 61, 2),
            (x, a) -> x.fewest(0, 2), (x, a) -> x.when(0, 21),
        };
        for (int i = 0; i < ofShips.length; i++) {
            look("call " + i + " of no ship", new AnchorsForConfession(), 0, ofShips[i], new int[0], -1);
        }
        look("ebb of no ship", new AnchorsForConfession(), 1000000000L, (x, a) -> x.ebb(0), new int[0], -1);
        look("storm of no ship", new AnchorsForConfession(), 4000000000000000000L, (x, a) -> x.storm(0, 8, 1, 2),
            new int[0], -1);
    }

    private static AnchorsForConfession with(String text) {
        AnchorsForConfession x = new AnchorsForConfession();
        if (!text.isEmpty()) {
            say(x, text);
        }
        return x;
    }

    private static void noImage() {
        look("on", new AnchorsForConfession(), 0, (x, a) -> x.on(), new int[0], -3);
        look("on", with("s2;"), 0, (x, a) -> x.on(), new int[0], -3);
        AnchorsForConfession x = with("s2;w07;");
        due("image", x.image(), 7);
        due("on", x.on(), 7);
        due("none refused", x.count(13), 0);
    }

    /** A count of nothing is -9, and no refusal. */
    private static void otherCounts() {
        AnchorsForConfession x = aHarbour();
        for (int what : new int[] {MIN, -16, -11, -1, 8, 9, 10, 17, 18, MAX}) {
            due("count(" + what + ")", x.count(what), -9);
        }
        for (int what = 11; what <= 16; what++) {
            due("count(" + what + ")", x.count(what), 0);
        }
        x.on();
        x.letter(-1);
        x.letter(256);
        x.ebb(5);
        x.storm(0, 0, 2, 2);
        x.mean(2);
        x.tells(8);
        due("-1", x.count(11), 2);
        due("-2", x.count(12), 2);
        due("-3", x.count(13), 0);
        due("-4", x.count(14), 1);
        due("-5, that none answers", x.count(15), 0);
        due("-6", x.count(16), 1);
    }

    private static void due(String what, long got, long want) {
        if (got != want) {
            fail(what + " answered " + got + ", due is " + want);
        }
    }

    private static void fail(String text) {
        wrong++;
        System.out.println(text);
    }
}
