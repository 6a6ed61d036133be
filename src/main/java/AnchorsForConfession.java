/** A harbour whose anchors come up only for a confession; README.md tells how to use it. */
public final class AnchorsForConfession {

    private static final int NOBODY = -1;
    private static final int OTHER = -2;
    private static final int STATE = -3;
    private static final int BELOW = -4;
    private static final int ROOM = -6;
    private static final int NONE = -9;

    private static final int EBB_REFUSED = 1000000000;
    private static final long LONG_REFUSED = 4000000000000000000L;

    private static final int MOST_FIGURE = 9;
    private static final int MOST_LETTER = 255;
    private static final int MOST_TIDES = 60;
    private static final int MOST_WORDS_ASKED = 20;
    private static final int MOST_STORMS = 7;
    private static final int MOST_STORM_ODDS = 20;
    private static final int MOST_SEASONS = 20;
    private static final int DRAWS_IN_A_SEASON = 12;
    private static final int GAIN_OF_OUT = 3;

    private final Harbour now;
    /** A second harbour in which the questions are thought through, so that no call makes a new one. */
    private final Harbour thought;
    private final Harbour kept;
    private final Letters letters;
    private final Row told;
    private final Lot lot;
    private final int[] refusals;
    private boolean imageTaken;

    public AnchorsForConfession() {
        now = new Harbour();
        thought = new Harbour();
        kept = new Harbour();
        letters = new Letters();
        told = new Row();
        lot = new Lot();
        refusals = new int[7];
        imageTaken = false;
    }

    // What changes the harbour.

    public int letter(int c) {
        if (c < 0) {
            return refused(BELOW);
        }
        if (c > MOST_LETTER || letters.isFull()) {
            return refused(ROOM);
        }
        return letters.add(c);
    }

    public int harbour() {
        thought.copyFrom(now);
        int answer = letters.play(thought);
        letters.drop();
        if (answer > 0) {
            now.copyFrom(thought);
        }
        return answer;
    }

    public int tells(int man) {
        if (!now.hasMan(man)) {
            return refused(NOBODY);
        }
        if (!now.canTell(man)) {
            return refused(STATE);
        }
        return now.word(man);
    }

    public int boards(int man, int ship) {
        if (!now.hasMan(man) || !now.hasShip(ship)) {
            return refused(NOBODY);
        }
        int before = now.aboard[man];
        now.aboard[man] = ship;
        return before;
    }

    public int sins(int man, int v) {
        if (!now.hasMan(man)) {
            return refused(NOBODY);
        }
        if (v < 0) {
            return refused(BELOW);
        }
        if (v > Harbour.MOST_SINS) {
            return refused(ROOM);
        }
        int before = now.sinsOf[man];
        now.sinsOf[man] = v;
        return before;
    }

    public int loads(int ship, int v) {
        if (!now.hasShip(ship)) {
            return refused(NOBODY);
        }
        if (v < 0) {
            return refused(BELOW);
        }
        if (v > Harbour.MOST_HEAVY) {
            return refused(ROOM);
        }
        int before = now.heavy[ship];
        now.heavy[ship] = v;
        return before;
    }

    public int turn(int man, int kind, int figure) {
        if (!now.hasMan(man)) {
            return refused(NOBODY);
        }
        if (kind < 0 || kind >= Harbour.KINDS) {
            return refused(OTHER);
        }
        if (figure < 0) {
            return refused(BELOW);
        }
        if (figure > MOST_FIGURE) {
            return refused(ROOM);
        }
        int before = 10 * now.kind[man] + now.figure[man];
        now.kind[man] = kind;
        now.figure[man] = figure;
        return before;
    }

    public int tides(int n) {
        if (n < 1) {
            return refused(BELOW);
        }
        if (n > MOST_TIDES || !now.hasTidesLeft(n)) {
            return refused(ROOM);
        }
        now.passTides(n);
        return now.outBits();
    }

    // What is, and what will be without a word.

    public int ship(int ship, int what) {
        if (!now.hasShip(ship)) {
            return refused(NOBODY);
        }
        switch (what) {
            case 0: return now.heavy[ship];
            case 1: return now.loose[ship];
            case 2: return now.outFor[ship];
            case 3: return now.holds(ship);
            case 4: return now.lacks(ship);
            case 5: return now.pool(ship);
            case 6: return now.crew(ship);
            default: return refused(OTHER);
        }
    }

    public int man(int man, int what) {
        if (!now.hasMan(man)) {
            return refused(NOBODY);
        }
        switch (what) {
            case 0: return now.kind[man];
            case 1: return now.figure[man];
            case 2: return now.sinsOf[man];
            case 3: return now.aboard[man];
            case 4: return now.worth(man);
            case 5: return now.carried(man);
            case 6: return now.canTell(man) ? 1 : 0;
            default: return refused(OTHER);
        }
    }

    public int shipThen(int ship, int n, int what) {
        if (!now.hasShip(ship)) {
            return refused(NOBODY);
        }
        if (n < 0) {
            return refused(BELOW);
        }
        if (n > MOST_TIDES) {
            return refused(ROOM);
        }
        if (what != 0 && what != 1) {
            return refused(OTHER);
        }
        thought.copyFrom(now);
        thought.passTides(n);
        return what == 0 ? thought.outFor[ship] : thought.holds(ship);
    }

    public int sinsThen(int man, int n) {
        if (!now.hasMan(man)) {
            return refused(NOBODY);
        }
        if (n < 0) {
            return refused(BELOW);
        }
        if (n > MOST_TIDES) {
            return refused(ROOM);
        }
        thought.copyFrom(now);
        thought.passTides(n);
        return thought.sinsOf[man];
    }

    public int fixture() {
        int bits = 0;
        for (int s = 0; s < now.ships; s++) {
            if (now.isIn(s) && !now.canRise(s)) {
                bits |= 1 << s;
            }
        }
        return bits;
    }

    // The fewest words.

    public int fewest(int ship, int what) {
        if (!now.hasShip(ship)) {
            return refused(NOBODY);
        }
        if (what != 0 && what != 1) {
            return refused(OTHER);
        }
        if (!now.isIn(ship)) {
            return refused(STATE);
        }
        int words = now.fewestWords(ship);
        return what == 0 || words == NONE ? words : now.mostAsked();
    }

    public int when(int ship, int v) {
        if (!now.hasShip(ship)) {
            return refused(NOBODY);
        }
        if (v < 0) {
            return refused(BELOW);
        }
        if (v > MOST_WORDS_ASKED) {
            return refused(ROOM);
        }
        thought.copyFrom(now);
        for (int n = 0; n <= MOST_TIDES; n++) {
            int words = thought.isIn(ship) ? thought.fewestWords(ship) : NONE;
            if (words != NONE && words <= v) {
                return n;
            }
            thought.passTides(1);
        }
        return NONE;
    }

    public int cheapest() {
        int best = NONE;
        int least = NONE;
        for (int s = 0; s < now.ships; s++) {
            int words = now.isIn(s) ? now.fewestWords(s) : NONE;
            if (words != NONE && (best == NONE || words < least)) {
                least = words;
                best = s;
            }
        }
        return best;
    }

    // Whom to ship where.

    public int berth(int man) {
        if (!now.hasMan(man)) {
            return refused(NOBODY);
        }
        int best = NONE;
        int most = now.countRisable();
        thought.copyFrom(now);
        for (int s = 0; s < now.ships; s++) {
            thought.aboard[man] = s;
            int rising = thought.countRisable();
            if (now.isIn(s) && rising > most) {
                most = rising;
                best = s;
            }
        }
        return best;
    }

    public int rise() {
        return now.countRisable();
    }

    public int deal() {
        int best = NONE;
        int most = now.countRisable();
        for (int a = 0; a < now.men; a++) {
            for (int b = a + 1; b < now.men; b++) {
                int rising = risableHavingChanged(a, b);
                if (now.aboard[a] != now.aboard[b] && rising > most) {
                    most = rising;
                    best = 10 * a + b;
                }
            }
        }
        return best;
    }

    private int risableHavingChanged(int a, int b) {
        thought.copyFrom(now);
        thought.aboard[a] = now.aboard[b];
        thought.aboard[b] = now.aboard[a];
        return thought.countRisable();
    }

    public int hush() {
        int bits = 0;
        for (int m = 0; m < now.men; m++) {
            int s = now.aboard[m];
            if (now.canRise(s) && now.pool(s) - now.sinsOf[m] * now.worth(m) < now.lacks(s)) {
                bits |= 1 << m;
            }
        }
        return bits;
    }

    // What to tell now and what to keep.

    public int loudest(int what) {
        if (what != 0 && what != 1) {
            return refused(OTHER);
        }
        int best = NONE;
        int most = NONE;
        for (int m = 0; m < now.men; m++) {
            thought.copyFrom(now);
            int rising = thought.canTell(m) ? thought.word(m) : NONE;
            if (rising > most) {
                most = rising;
                best = m;
            }
        }
        return what == 0 ? best : most;
    }

    public int spree(int what) {
        if (what != 0 && what != 1) {
            return refused(OTHER);
        }
        thought.copyFrom(now);
        for (int m = 0; m < now.men; m++) {
            thought.word(m);
        }
        return what == 0 ? Integer.bitCount(thought.outBits()) : thought.heard;
    }

    public int keep(int man) {
        if (!now.hasMan(man)) {
            return refused(NOBODY);
        }
        if (!now.canTell(man)) {
            return refused(STATE);
        }
        return lacksBehindWord(man, 0) <= lacksBehindWord(man, 1) ? 1 : 0;
    }

    private int lacksBehindWord(int man, int tidesAhead) {
        thought.copyFrom(now);
        thought.passTides(tidesAhead);
        thought.word(man);
        return thought.lacks(thought.aboard[man]);
    }

    public int richest(int what) {
        if (what != 0 && what != 1) {
            return refused(OTHER);
        }
        int best = NONE;
        int most = -1;
        for (int m = 0; m < now.men; m++) {
            int v = what == 0 ? now.sinsOf[m] : now.worth(m);
            if (v > most) {
                most = v;
                best = m;
            }
        }
        return best;
    }

    public int blameless() {
        int bits = 0;
        for (int s = 0; s < now.ships; s++) {
            if (now.sinsAboard(s) == 0) {
                bits |= 1 << s;
            }
        }
        return bits;
    }

    public int ebb(int ship) {
        if (!now.hasShip(ship)) {
            return EBB_REFUSED - refused(NOBODY);
        }
        thought.copyFrom(now);
        thought.tide++;
        return thought.pool(ship) - now.pool(ship);
    }

    public int missing() {
        int sum = 0;
        for (int s = 0; s < now.ships; s++) {
            if (now.isIn(s)) {
                sum += Math.max(0, now.lacks(s) - now.pool(s));
            }
        }
        return sum;
    }

    // Two men who tell or not.

    public int two(int a, int b) {
        if (!now.hasMan(a) || !now.hasMan(b) || a == b) {
            return refused(NOBODY);
        }
        if (!now.canTell(a) || !now.canTell(b)) {
            return refused(STATE);
        }
        for (int first = 0; first <= 1; first++) {
            for (int other = 0; other <= 1; other++) {
                if (isSettled(a, b, first, other)) {
                    return 10 * first + other;
                }
            }
        }
        return NONE;
    }

    private boolean isSettled(int a, int b, int first, int other) {
        return gainOf(a, a, b, first, other) >= gainOf(a, a, b, 1 - first, other)
            && gainOf(b, a, b, first, other) >= gainOf(b, a, b, first, 1 - other);
    }

    /** What one of the two has of it if a tells by first and then b, if he still can, by other. */
    private int gainOf(int man, int a, int b, int first, int other) {
        thought.copyFrom(now);
        boolean firstTells = first == 1 && thought.canTell(a);
        if (firstTells) {
            thought.word(a);
        }
        boolean otherTells = other == 1 && thought.canTell(b);
        if (otherTells) {
            thought.word(b);
        }
        int gain = thought.isIn(thought.aboard[man]) ? 0 : GAIN_OF_OUT;
        boolean hasTold = man == a ? firstTells : otherTells;
        return hasTold ? gain - 1 : gain;
    }

    // Odds.

    public long storm(int ship, int n, int t, int part) {
        if (!now.hasShip(ship)) {
            return LONG_REFUSED - refused(NOBODY);
        }
        if (n < 0 || t < 2) {
            return LONG_REFUSED - refused(BELOW);
        }
        if (n > MOST_STORMS || t > MOST_STORM_ODDS) {
            return LONG_REFUSED - refused(ROOM);
        }
        if (part != 0 && part != 1) {
            return LONG_REFUSED - refused(OTHER);
        }
        long ways = 0;
        for (int storms = 0; storms < 1 << n; storms++) {
            if (isOutBehind(ship, n, storms)) {
                ways += power(t - 1, n - Integer.bitCount(storms));
            }
        }
        return fraction(ways, power(t, n), part);
    }

    private boolean isOutBehind(int ship, int n, int storms) {
        thought.copyFrom(now);
        for (int i = 0; i < n; i++) {
            if ((storms >> i & 1) != 0) {
                thought.storms();
            }
            thought.passTides(1);
        }
        return !thought.isIn(ship);
    }

    private static long power(long base, int n) {
        long power = 1;
        for (int i = 0; i < n; i++) {
            power *= base;
        }
        return power;
    }

    public long mean(int part) {
        if (part != 0 && part != 1) {
            return LONG_REFUSED - refused(OTHER);
        }
        return fraction(now.allSins(), Math.max(1, now.men), part);
    }

    /** A part of the fraction in least terms: 0 above the line, 1 below it. */
    private static long fraction(long above, long below, int part) {
        long divisor = commonDivisor(below, above);
        if (divisor == 0) {
            return part;
        }
        return (part == 0 ? above : below) / divisor;
    }

    private static long commonDivisor(long a, long b) {
        for (int i = 0; i < 200 && b != 0; i++) {
            long rest = a % b;
            a = b;
            b = rest;
        }
        return a;
    }

    // The row.

    public int whoTold() {
        int bits = 0;
        for (int m = 0; m < now.men; m++) {
            thought.copyFrom(now);
            if (rowTellsWordOf(m)) {
                bits |= 1 << m;
            }
        }
        return bits;
    }

    public int whatIs(int man, int what) {
        if (!now.hasMan(man)) {
            return refused(NOBODY);
        }
        if (what != 0 && what != 1) {
            return refused(OTHER);
        }
        int bits = 0;
        for (int i = 0; i < (what == 0 ? Harbour.KINDS : MOST_FIGURE + 1); i++) {
            thought.copyFrom(now);
            if (what == 0) {
                thought.kind[man] = i;
            } else {
                thought.figure[man] = i;
            }
            if (rowTellsWordOf(man)) {
                bits |= 1 << i;
            }
        }
        return bits;
    }

    /** Lets the man tell in the thought harbour. */
    private boolean rowTellsWordOf(int man) {
        if (!thought.canTell(man)) {
            return false;
        }
        thought.word(man);
        return told.firstNotLooseAsIn(thought) == NONE;
    }

    public int row(int v) {
        if (v < 0) {
            return refused(BELOW);
        }
        if (v > Row.MOST_NUMBER || told.isFull()) {
            return refused(ROOM);
        }
        return told.add(v);
    }

    public int judge() {
        int answer = told.firstNotHeldAsIn(now);
        told.drop();
        return answer;
    }

    public int clear() {
        return told.drop();
    }

    // Seasons by lot, the image, what there is.

    public int lots(int n, int z, int what) {
        if (n < 1) {
            return refused(BELOW);
        }
        if (n > MOST_SEASONS) {
            return refused(ROOM);
        }
        if (what != 0 && what != 1) {
            return refused(OTHER);
        }
        if (now.men == 0) {
            return refused(STATE);
        }
        lot.seed = z;
        int rising = 0;
        int sins = 0;
        for (int i = 0; i < n; i++) {
            thought.copyFrom(now);
            rising += season();
            sins += thought.allSins();
        }
        return what == 0 ? rising : sins;
    }

    private int season() {
        int rising = 0;
        for (int i = 0; i < DRAWS_IN_A_SEASON; i++) {
            rising += thought.word(lot.drawBelow(thought.men));
            thought.passTides(1);
        }
        return rising;
    }

    public int image() {
        kept.copyFrom(now);
        imageTaken = true;
        return kept.tide;
    }

    public int on() {
        if (!imageTaken) {
            return refused(STATE);
        }
        now.copyFrom(kept);
        return now.tide;
    }

    public int count(int what) {
        if (what >= 11 && what <= 16) {
            return refusals[what - 10];
        }
        switch (what) {
            case 0: return now.ships;
            case 1: return now.men;
            case 2: return now.tide;
            case 3: return now.heard;
            case 4: return now.outBits();
            case 5: return now.allSins();
            case 6: return told.size;
            case 7: return letters.size;
            default: return NONE;
        }
    }

    private int refused(int number) {
        int index = -number;
        if (index >= 0 && index < refusals.length) {
            refusals[index]++;
        }
        return number;
    }

    /** All that an image keeps: ships, men, what was heard, the tide. */
    private static final class Harbour {
        static final int MOST_SHIPS = 5;
        static final int MOST_MEN = 8;
        static final int MOST_HEAVY = 9;
        static final int MOST_SINS = 9;
        static final int MOST_LOOSE = 99;
        static final int MOST_HEARD = 999;
        static final int MOST_TIDE = 999;
        static final int TIDES_OUT = 3;
        static final int LOOSE_BY_STORM = 2;

        static final int HAND = 0;
        static final int PRIEST = 1;
        static final int MATE = 2;
        static final int SMALL = 3;
        static final int ADMIRAL = 4;
        static final int BLAMELESS = 5;
        static final int KINDS = 6;

        int ships;
        final int[] heavy = new int[MOST_SHIPS];
        final int[] loose = new int[MOST_SHIPS];
        /** For how many tides a ship is out yet; 0 is in. */
        final int[] outFor = new int[MOST_SHIPS];
        int men;
        final int[] kind = new int[MOST_MEN];
        final int[] figure = new int[MOST_MEN];
        final int[] sinsOf = new int[MOST_MEN];
        final int[] aboard = new int[MOST_MEN];
        int heard;
        int tide;
        /** How many words fewestWords asked of each man when it was last called. */
        final int[] asked = new int[MOST_MEN];

        void copyFrom(Harbour other) {
            ships = other.ships;
            men = other.men;
            heard = other.heard;
            tide = other.tide;
            for (int s = 0; s < MOST_SHIPS; s++) {
                heavy[s] = other.heavy[s];
                loose[s] = other.loose[s];
                outFor[s] = other.outFor[s];
            }
            for (int m = 0; m < MOST_MEN; m++) {
                kind[m] = other.kind[m];
                figure[m] = other.figure[m];
                sinsOf[m] = other.sinsOf[m];
                aboard[m] = other.aboard[m];
            }
        }

        boolean hasShip(int s) {
            return s >= 0 && s < ships;
        }

        boolean hasMan(int m) {
            return m >= 0 && m < men;
        }

        boolean addShip(int itsHeavy) {
            if (ships >= MOST_SHIPS) {
                return false;
            }
            heavy[ships] = itsHeavy;
            loose[ships] = 0;
            outFor[ships] = 0;
            ships++;
            return true;
        }

        boolean addMan(int hisKind, int hisFigure, int hisSins, int s) {
            if (men >= MOST_MEN || !hasShip(s)) {
                return false;
            }
            kind[men] = hisKind;
            figure[men] = hisFigure;
            sinsOf[men] = hisSins;
            aboard[men] = s;
            men++;
            return true;
        }

        boolean isIn(int s) {
            return outFor[s] == 0;
        }

        boolean isEbb() {
            return tide % 2 != 0;
        }

        int holds(int s) {
            int flood = isEbb() ? 0 : 2;
            return 3 * heavy[s] + 2 + flood + heard / 10;
        }

        int lacks(int s) {
            return isIn(s) ? Math.max(0, holds(s) - loose[s]) : 0;
        }

        int pool(int s) {
            int sum = 0;
            for (int m = 0; m < men; m++) {
                if (aboard[m] == s) {
                    sum += sinsOf[m] * worth(m);
                }
            }
            return sum;
        }

        int crew(int s) {
            int bits = 0;
            for (int m = 0; m < men; m++) {
                if (aboard[m] == s) {
                    bits |= 1 << m;
                }
            }
            return bits;
        }

        int sinsAboard(int s) {
            int sum = 0;
            for (int m = 0; m < men; m++) {
                if (aboard[m] == s) {
                    sum += sinsOf[m];
                }
            }
            return sum;
        }

        int allSins() {
            int sum = 0;
            for (int m = 0; m < men; m++) {
                sum += sinsOf[m];
            }
            return sum;
        }

        int outBits() {
            int bits = 0;
            for (int s = 0; s < ships; s++) {
                if (!isIn(s)) {
                    bits |= 1 << s;
                }
            }
            return bits;
        }

        boolean canRise(int s) {
            return isIn(s) && pool(s) >= lacks(s);
        }

        int countRisable() {
            int count = 0;
            for (int s = 0; s < ships; s++) {
                if (canRise(s)) {
                    count++;
                }
            }
            return count;
        }

        /** What a sin of his is worth. */
        int worth(int m) {
            int asHand = figure[m] + 1;
            int asMate = isEbb() ? 2 * asHand : asHand;
            switch (kind[m]) {
                case HAND: return asHand;
                case MATE: return asMate;
                case SMALL: return Math.max(1, asHand / 2);
                case ADMIRAL: return asMate + 3;
                default: return 0;
            }
        }

        /** How much of a sin of his is heard by each other ship that is in. */
        int carried(int m) {
            switch (kind[m]) {
                case ADMIRAL: return worth(m) / 3;
                case BLAMELESS: return 1;
                default: return 0;
            }
        }

        /** How many sins more he has in a tide out. */
        int sinsMore(int m) {
            switch (kind[m]) {
                case PRIEST: return 0;
                case BLAMELESS: return 0;
                case SMALL: return 2;
                default: return 1;
            }
        }

        boolean canTell(int m) {
            return hasMan(m) && sinsOf[m] > 0 && isIn(aboard[m]);
        }

        /** He tells, if he can: how many ships rise. */
        int word(int m) {
            if (!canTell(m)) {
                return 0;
            }
            int own = worth(m);
            int others = carried(m);
            sinsOf[m]--;
            heard = Math.min(MOST_HEARD, heard + 1);
            for (int s = 0; s < ships; s++) {
                loosen(s, s == aboard[m] ? own : others);
            }
            return riseAll();
        }

        void loosen(int s, int by) {
            if (isIn(s)) {
                loose[s] = Math.min(MOST_LOOSE, loose[s] + by);
            }
        }

        int riseAll() {
            int rising = 0;
            for (int s = 0; s < ships; s++) {
                if (isIn(s) && loose[s] >= holds(s)) {
                    outFor[s] = TIDES_OUT;
                    loose[s] = 0;
                    rising++;
                }
            }
            return rising;
        }

        void storms() {
            for (int s = 0; s < ships; s++) {
                loosen(s, LOOSE_BY_STORM);
            }
            riseAll();
        }

        boolean hasTidesLeft(int n) {
            return n <= MOST_TIDE - tide;
        }

        void passTides(int n) {
            for (int i = 0; i < n; i++) {
                passTide();
            }
        }

        void passTide() {
            tide++;
            for (int m = 0; m < men; m++) {
                if (!isIn(aboard[m])) {
                    sinsOf[m] = Math.min(MOST_SINS, sinsOf[m] + sinsMore(m));
                }
            }
            for (int s = 0; s < ships; s++) {
                if (!isIn(s)) {
                    outFor[s]--;
                }
            }
        }

        /** The fewest words by which a ship that is in rises now; -9 if none do. */
        int fewestWords(int s) {
            for (int m = 0; m < MOST_MEN; m++) {
                asked[m] = 0;
            }
            int words = 0;
            int lack = lacks(s);
            for (int i = 0; i < MOST_MEN * MOST_SINS && lack > 0; i++) {
                int m = dearestLeft(s);
                if (m == NONE) {
                    return NONE;
                }
                asked[m]++;
                lack -= worth(m);
                words++;
            }
            return lack > 0 ? NONE : words;
        }

        /** The man aboard with a sin not yet asked that is worth most; one worth nothing would never help. */
        int dearestLeft(int s) {
            int best = NONE;
            int most = 0;
            for (int m = 0; m < men; m++) {
                if (aboard[m] == s && asked[m] < sinsOf[m] && worth(m) > most) {
                    most = worth(m);
                    best = m;
                }
            }
            return best;
        }

        int mostAsked() {
            int best = NONE;
            int most = 0;
            for (int m = 0; m < men; m++) {
                if (asked[m] > most) {
                    most = asked[m];
                    best = m;
                }
            }
            return best;
        }
    }

    /** The letters that a harbour is told in. */
    private static final class Letters {
        static final int MOST_LETTERS = 96;
        static final int LACKING = -1000;
        static final int AMISS = -2000;
        /** The letters of the kinds, each at its kind's number. */
        static final String KIND_LETTERS = "hpmsab";

        final int[] signs = new int[MOST_LETTERS];
        int size = 0;

        boolean isFull() {
            return size >= MOST_LETTERS;
        }

        int add(int c) {
            if (size < MOST_LETTERS) {
                signs[size] = c;
                size++;
            }
            return size;
        }

        void drop() {
            size = 0;
        }

        /** All of it happens in the harbour: how many statements; a fault may leave the harbour half told. */
        int play(Harbour harbour) {
            int amiss = firstThatCanNotGoOn();
            if (amiss != NONE) {
                return LACKING - amiss;
            }
            int statements = 0;
            int place = 0;
            for (int i = 0; i < MOST_LETTERS && place < size; i++) {
                if (!happens(place, harbour)) {
                    return AMISS - place;
                }
                place += 1 + partsBehind(signs[place]).length();
                statements++;
            }
            return statements;
        }

        /** The place of the first letter that fits no harbour, the end if something lacks; -9. */
        int firstThatCanNotGoOn() {
            String parts = "";
            int part = 0;
            for (int place = 0; place < size; place++) {
                if (part < parts.length()) {
                    if (!fits(signs[place], parts.charAt(part))) {
                        return place;
                    }
                    part++;
                } else {
                    parts = partsBehind(signs[place]);
                    part = 0;
                    if (parts.isEmpty()) {
                        return place;
                    }
                }
            }
            return size == 0 || part < parts.length() ? size : NONE;
        }

        /** What must stand behind a statement's first letter: k a kind, 9 a digit; empty if it opens none. */
        static String partsBehind(int first) {
            switch (first) {
                case 's': return "9;";
                case 'm': return "k999;";
                case 't': return "9;";
                case 'b': return "99;";
                case 'v': return "99;";
                case 'w': return "99;";
                default: return "";
            }
        }

        static boolean fits(int sign, char part) {
            switch (part) {
                case 'k': return kindOf(sign) >= 0;
                case '9': return sign >= '0' && sign <= '9';
                default: return sign == part;
            }
        }

        static int kindOf(int sign) {
            return KIND_LETTERS.indexOf((char) sign);
        }

        /** False if the statement at this place is not as it must be. */
        boolean happens(int place, Harbour harbour) {
            int a = digit(place + 1);
            int b = digit(place + 2);
            switch (signAt(place)) {
                case 's': return harbour.addShip(a);
                case 'm': return harbour.addMan(kindOf(signAt(place + 1)), b, digit(place + 3), digit(place + 4));
                case 't': return harbour.canTell(a) && harbour.word(a) >= 0;
                case 'b': return boardingHappens(a, b, harbour);
                case 'v': return sinsHappen(a, b, harbour);
                case 'w': return tidesHappen(10 * a + b, harbour);
                default: return false;
            }
        }

        static boolean boardingHappens(int m, int s, Harbour harbour) {
            if (!harbour.hasMan(m) || !harbour.hasShip(s)) {
                return false;
            }
            harbour.aboard[m] = s;
            return true;
        }

        static boolean sinsHappen(int m, int v, Harbour harbour) {
            if (!harbour.hasMan(m)) {
                return false;
            }
            harbour.sinsOf[m] = v;
            return true;
        }

        static boolean tidesHappen(int n, Harbour harbour) {
            if (n < 1 || n > MOST_TIDES || !harbour.hasTidesLeft(n)) {
                return false;
            }
            harbour.passTides(n);
            return true;
        }

        int signAt(int place) {
            return place >= 0 && place < size ? signs[place] : 0;
        }

        int digit(int place) {
            return signAt(place) - '0';
        }
    }

    /** The row of numbers that is told. */
    private static final class Row {
        static final int MOST_NUMBERS = 16;
        static final int MOST_NUMBER = 99;
        static final int TOLD_OUT = 98;

        final int[] numbers = new int[MOST_NUMBERS];
        int size = 0;

        boolean isFull() {
            return size >= MOST_NUMBERS;
        }

        int add(int v) {
            if (size < MOST_NUMBERS) {
                numbers[size] = v;
                size++;
            }
            return size;
        }

        /** How many there were. */
        int drop() {
            int before = size;
            size = 0;
            return before;
        }

        int firstNotHeldAsIn(Harbour harbour) {
            for (int s = 0; s < size; s++) {
                if (!harbour.hasShip(s) || harbour.holds(s) != numbers[s]) {
                    return s;
                }
            }
            return NONE;
        }

        int firstNotLooseAsIn(Harbour harbour) {
            for (int s = 0; s < size; s++) {
                if (!harbour.hasShip(s) || looseTold(harbour, s) != numbers[s]) {
                    return s;
                }
            }
            return NONE;
        }

        static int looseTold(Harbour harbour, int s) {
            return harbour.isIn(s) ? harbour.loose[s] : TOLD_OUT;
        }
    }

    /** Draws that follow one another from a seed. */
    private static final class Lot {
        static final int ALL_BUT_SIGN = 0x7fffffff;

        int seed = 0;

        int drawBelow(int m) {
            seed = seed * 1664525 + 1013904223;
            return m > 0 ? (seed & ALL_BUT_SIGN) / 256 % m : 0;
        }
    }
}
