/** A test for each promise, with answers worked out by hand from the document. */
public final class PromisesTest {
    private static int wrong = 0;
    private static String promise = "";

    private static void due(String call, long got, long want) {
        if (got != want) {
            wrong++;
            System.out.println(promise + ": " + call + " answered " + got + ", due is " + want);
        }
    }

    private static int say(AnchorsForConfession x, String text) {
        for (int i = 0; i < text.length(); i++) {
            x.letter(text.charAt(i));
        }
        return x.harbour();
    }

    private static AnchorsForConfession told(String text) {
        AnchorsForConfession x = new AnchorsForConfession();
        due("telling " + text, Math.min(0, say(x, text)), 0);
        return x;
    }

    private static void fault(String text, int want) {
        AnchorsForConfession x = new AnchorsForConfession();
        due("harbour of " + text, say(x, text), want);
        due("SHIPS behind " + text, x.count(0), 0);
        due("MEN behind " + text, x.count(1), 0);
        due("TIDE behind " + text, x.count(2), 0);
        due("letters behind " + text, x.count(7), 0);
        for (int what = 11; what <= 16; what++) {
            due("REFUSALS behind " + text, x.count(what), 0);
        }
    }

    private static void row(AnchorsForConfession x, int... numbers) {
        x.clear();
        for (int v : numbers) {
            x.row(v);
        }
    }

    public static void main(String[] args) {
        p1();
        p2();
        p3();
        p3Faults();
        p4();
        p5();
        p5Kinds();
        p6();
        p6Neighbours();
        p7();
        p8();
        p9();
        p10();
        p11();
        p12();
        p13();
        p14();
        p15();
        p16();
        p17();
        p18();
        p19();
        p20();
        p21();
        p22();
        p23();
        p24();
        p25();
        p26();
        p27();
        p28();
        p29();
        p30();
        p31();
        p32();
        p33();
        p34();
        p35();
        p36();
        p37();
        p38();
        p40();
        full();
        System.out.println(wrong == 0 ? "all promises hold" : wrong + " answers are not as due");
        if (wrong != 0) {
            System.exit(1);
        }
    }

    private static void p1() {
        promise = "1";
        AnchorsForConfession x = new AnchorsForConfession();
        for (int what = 0; what <= 7; what++) {
            due("count(" + what + ")", x.count(what), 0);
        }
        for (int what = 11; what <= 16; what++) {
            due("count(" + what + ")", x.count(what), 0);
        }
        due("on()", x.on(), -3);
    }

    private static void p2() {
        promise = "2";
        AnchorsForConfession x = new AnchorsForConfession();
        due("letter(0)", x.letter(0), 1);
        due("letter(255)", x.letter(255), 2);
        due("letter(256)", x.letter(256), -6);
        due("letter(max)", x.letter(Integer.MAX_VALUE), -6);
        due("letter(-1)", x.letter(-1), -4);
        due("letter(min)", x.letter(Integer.MIN_VALUE), -4);
        for (int i = 3; i <= 96; i++) {
            due("letter(65)", x.letter(65), i);
        }
        due("letter(65) of 97", x.letter(65), -6);
        due("letter(-1) of 97", x.letter(-1), -4);
        due("count(7)", x.count(7), 96);
        due("count(14)", x.count(14), 3);
        due("count(16)", x.count(16), 3);
        due("harbour()", x.harbour(), -1000);
        due("letter(65) again", x.letter(65), 1);
    }

    private static void p3() {
        promise = "3";
        AnchorsForConfession x = new AnchorsForConfession();
        due("harbour", say(x, "s2;s7;ma431;t0;b00;v08;w05;"), 7);
        due("count(0)", x.count(0), 2);
        due("count(1)", x.count(1), 1);
        due("count(2)", x.count(2), 5);
        due("count(3)", x.count(3), 1);
        due("count(7)", x.count(7), 0);
        due("heavy", x.ship(0, 0), 2);
        due("heavy", x.ship(1, 0), 7);
        // ADMIRAL 4 at flood: worth 5 and 3, heard 8 / 3
        due("loose", x.ship(1, 1), 8);
        due("loose", x.ship(0, 1), 2);
        due("kind", x.man(0, 0), 4);
        due("figure", x.man(0, 1), 4);
        due("sins", x.man(0, 2), 8);
        due("ship", x.man(0, 3), 0);
        due("more", say(x, "s9;mb992;"), 2);
        due("count(0)", x.count(0), 3);
        due("ship of 1", x.man(1, 3), 2);
        due("kind of 1", x.man(1, 0), 5);
        String[] kinds = {"h", "p", "m", "s", "a", "b"};
        for (int k = 0; k < 6; k++) {
            AnchorsForConfession y = told("s0;m" + kinds[k] + "210;");
            due("kind " + kinds[k], y.man(0, 0), k);
            due("figure", y.man(0, 1), 2);
            due("sins", y.man(0, 2), 1);
        }
        due("telling behind v", say(new AnchorsForConfession(), "s9;mh000;v01;t0;"), 4);
        due("in again", say(new AnchorsForConfession(), "s0;mh920;t0;w03;t0;"), 5);
        due("96 letters", say(new AnchorsForConfession(), "s9;".repeat(5) + "mh000;".repeat(8)
            + "v09;" + "t0;".repeat(3) + "w01;".repeat(5)), 22);
    }

    private static void p3Faults() {
        promise = "3 FAULT";
        fault("", -1000);
        fault("s", -1001);
        fault("s1", -1002);
        fault("s1s", -1002);
        fault("sa;", -1001);
        fault("s:;", -1001);
        fault("s/;", -1001);
        fault("s1;;", -1003);
        fault("s1; ", -1003);
        fault("s1;s", -1004);
        fault("S1;", -1000);
        fault("9", -1000);
        fault("m", -1001);
        fault("mz", -1001);
        fault("mH", -1001);
        fault("m0000;", -1001);
        fault("mh", -1002);
        fault("mh1", -1003);
        fault("mh12", -1004);
        fault("mh123", -1005);
        fault("mh1234", -1005);
        fault("mh;", -1002);
        fault("t", -1001);
        fault("t12;", -1002);
        fault("b1;", -1002);
        fault("b12", -1003);
        fault("b123", -1003);
        fault("v1", -1002);
        fault("v11w", -1003);
        fault("w1;", -1002);
        fault("w011;", -1003);
        fault("s" + (char) 255 + ";", -1001);
        fault("s0;t0;x", -1006);
        fault("s0;t0;s", -1007);
        fault("t0;", -2000);
        fault("s0;t0;", -2003);
        fault("mh000;", -2000);
        fault("s0;mh001;", -2003);
        fault("s0;mh000;t0;", -2009);
        fault("s0;mh010;t1;", -2009);
        fault("s0;mh920;t0;t0;", -2012);
        fault("s9;mh000;v01;t0;t0;", -2016);
        fault("s0;mh000;b01;", -2009);
        fault("s0;mh000;b10;", -2009);
        fault("s0;mh000;b00;v10;", -2013);
        fault("w00;", -2000);
        fault("w61;", -2000);
        fault("w99;", -2000);
        fault("w60;w01;w61;", -2008);
        fault("s0;s0;s0;s0;s0;s0;", -2015);
        fault("s0;" + "mh000;".repeat(9), -2051);
        fault("w60;".repeat(16) + "w40;", -2064);
        due("TIDE 999", told("w60;".repeat(16) + "w39;").count(2), 999);
        fault("w60;".repeat(16) + "w39;w01;", -2068);
        AnchorsForConfession x = told("s3;mh990;t0;");
        due("fault", say(x, "t0;w03;b07;"), -2007);
        due("nothing of it", x.count(2), 0);
        due("nothing of it", x.count(3), 1);
        due("nothing of it", x.man(0, 2), 8);
        due("nothing of it", x.ship(0, 1), 10);
        due("from what is, not from a thought", say(x, "v03;"), 1);
        due("TIDE", x.count(2), 0);
        due("HEARD", x.count(3), 1);
        x.spree(0);
        due("from what is, not from a thought", say(x, "w01;"), 1);
        due("HEARD", x.count(3), 1);
    }

    private static void p4() {
        promise = "4";
        AnchorsForConfession x = told("s2;s0;mh320;mm411;mb510;");
        long[] first = {2, 0, 0, 10, 10, 8, 5};
        long[] second = {0, 0, 0, 4, 4, 5, 2};
        for (int what = 0; what < 7; what++) {
            due("ship(0, " + what + ")", x.ship(0, what), first[what]);
            due("ship(1, " + what + ")", x.ship(1, what), second[what]);
        }
        x.tells(1);
        due("out", x.ship(1, 2), 3);
        due("loose", x.ship(1, 1), 0);
        due("lacks", x.ship(1, 4), 0);
        due("holds", x.ship(1, 3), 4);
        x.sins(1, 2);
        due("pool of one out", x.ship(1, 5), 10);
        x.tides(1);
        due("out", x.ship(1, 2), 2);
        due("holds at ebb", x.ship(1, 3), 2);
        due("holds at ebb", x.ship(0, 3), 8);
        due("pool at ebb", x.ship(1, 5), 30);
        x.tides(2);
        due("in", x.ship(1, 2), 0);
        due("lacks", x.ship(1, 4), 2);
        due("ship(2, 0)", x.ship(2, 0), -1);
        due("ship(-1, 0)", x.ship(-1, 0), -1);
        due("ship(max, 9)", x.ship(Integer.MAX_VALUE, 9), -1);
        due("ship(0, 7)", x.ship(0, 7), -2);
        due("ship(0, -1)", x.ship(0, -1), -2);
        due("count(11)", x.count(11), 3);
        due("count(12)", x.count(12), 2);
        // loose stays while it holds less: it lacks nothing, and rises only at a word
        AnchorsForConfession y = told("s5;mh990;ms010;t0;");
        due("loose", y.ship(0, 1), 10);
        due("lacks", y.ship(0, 4), 9);
        y.loads(0, 1);
        due("lacks nothing", y.ship(0, 4), 0);
        due("in", y.ship(0, 2), 0);
        due("rises", y.tells(1), 1);
    }

    private static void p5() {
        promise = "5";
        AnchorsForConfession x = told("s0;s1;ma231;mh300;");
        long[] man = {4, 2, 3, 1, 6, 2, 1};
        for (int what = 0; what < 7; what++) {
            due("man(0, " + what + ")", x.man(0, what), man[what]);
        }
        due("no sins", x.man(1, 6), 0);
        due("man(2, 0)", x.man(2, 0), -1);
        due("man(-1, 0)", x.man(-1, 0), -1);
        due("man(min, -1)", x.man(Integer.MIN_VALUE, -1), -1);
        due("man(0, 7)", x.man(0, 7), -2);
        due("man(0, -1)", x.man(0, -1), -2);
        x.sins(1, 2);
        due("can", x.man(1, 6), 1);
        x.tells(1);
        due("his ship is out", x.ship(0, 2), 3);
        due("he has a sin", x.man(1, 2), 1);
        due("he can not", x.man(1, 6), 0);
    }

    private static void p5Kinds() {
        promise = "5 KINDS";
        AnchorsForConfession x = told("s9;mh000;");
        // WORTH and heard of h p m s a b, at flood and at ebb
        int[][] worth = {{5, 5}, {0, 0}, {5, 10}, {2, 2}, {8, 13}, {0, 0}};
        int[][] heard = {{0, 0}, {0, 0}, {0, 0}, {0, 0}, {2, 4}, {1, 1}};
        for (int ebb = 0; ebb < 2; ebb++) {
            for (int k = 0; k < 6; k++) {
                x.turn(0, k, 4);
                due("worth of " + k, x.man(0, 4), worth[k][ebb]);
                due("heard of " + k, x.man(0, 5), heard[k][ebb]);
            }
            x.turn(0, 3, 0);
            due("a small one's least", x.man(0, 4), 1);
            x.turn(0, 3, 9);
            due("half", x.man(0, 4), 5);
            x.tides(1);
        }
        // SINS more in 3 TIDES OUT
        int[] more = {3, 0, 3, 6, 3, 0};
        for (int k = 0; k < 6; k++) {
            AnchorsForConfession y = told("s0;s9;mh910;mh000;mh001;t0;");
            y.turn(1, k, 0);
            y.turn(2, k, 0);
            y.tides(3);
            due("sins of " + k + " out", y.man(1, 2), more[k]);
            due("sins of " + k + " in", y.man(2, 2), 0);
            y.tides(1);
            due("sins of " + k + " in again", y.man(1, 2), more[k]);
        }
    }

    private static void p6() {
        promise = "6";
        AnchorsForConfession x = told("s1;mh320;mp010;");
        due("no MAN", x.tells(2), -1);
        due("no MAN", x.tells(-1), -1);
        due("tells", x.tells(0), 0);
        due("sins", x.man(0, 2), 1);
        due("heard", x.count(3), 1);
        due("loose", x.ship(0, 1), 4);
        due("tells", x.tells(0), 1);
        due("out", x.ship(0, 2), 3);
        due("loose", x.ship(0, 1), 0);
        due("no sins", x.tells(0), -3);
        due("out", x.tells(1), -3);
        due("count(13)", x.count(13), 2);
        due("count(11)", x.count(11), 2);
        x.tides(2);
        due("out yet", x.tells(1), -3);
        x.tides(1);
        due("in", x.tells(1), 0);
        due("heard", x.count(3), 3);
        // 10 HEARD hold 1 more, with the word itself
        AnchorsForConfession y = told("s2;mp090;");
        for (int i = 0; i < 9; i++) {
            y.tells(0);
        }
        due("9 heard", y.ship(0, 3), 10);
        y.sins(0, 9);
        y.tells(0);
        due("10 heard", y.ship(0, 3), 11);
        AnchorsForConfession z = told("s2;mp090;mh930;");
        for (int i = 0; i < 9; i++) {
            z.tells(0);
        }
        due("holds 11 behind the 10th word", z.tells(1), 0);
        due("loose", z.ship(0, 1), 10);
        due("lacks", z.ship(0, 4), 1);
    }

    private static void p6Neighbours() {
        promise = "6 neighbours";
        // ADMIRAL 9 at ebb: worth 23, heard 7
        AnchorsForConfession x = told("s9;s0;s1;s0;ma930;mh091;w01;");
        due("admiral", x.tells(0), 3);
        due("out", x.count(4), 14);
        due("loose", x.ship(0, 1), 23);
        due("not heard by those out", x.ship(1, 1), 0);
        due("again", x.tells(0), 1);
        due("all out", x.count(4), 15);
        due("not heard by those out", x.ship(2, 1), 0);
        AnchorsForConfession y = told("s0;s0;mb990;");
        due("blameless 1", y.tells(0), 0);
        y.tells(0);
        y.tells(0);
        due("his own not", y.ship(0, 1), 0);
        due("the other", y.ship(1, 1), 3);
        due("rises", y.tells(0), 1);
        due("out", y.count(4), 2);
        AnchorsForConfession z = told("s9;s9;mh990;");
        z.tells(0);
        z.tells(0);
        z.tells(0);
        due("rises at 31", z.ship(0, 1), 30);
        due("rises at 31", z.tells(0), 1);
    }

    private static void p7() {
        promise = "7";
        AnchorsForConfession x = told("s0;s1;mh330;");
        due("boards", x.boards(0, 1), 0);
        due("boards", x.boards(0, 1), 1);
        due("crew", x.ship(1, 6), 1);
        due("crew", x.ship(0, 6), 0);
        due("no MAN", x.boards(1, 0), -1);
        due("no MAN", x.boards(-1, 0), -1);
        due("no SHIP", x.boards(0, 2), -1);
        due("no SHIP", x.boards(0, -1), -1);
        due("count(11)", x.count(11), 4);
        due("stays", x.man(0, 3), 1);
        x.boards(0, 0);
        due("rises", x.tells(0), 1);
        due("from one out", x.boards(0, 1), 0);
        due("onto one out", x.boards(0, 0), 1);
    }

    private static void p8() {
        promise = "8";
        AnchorsForConfession x = told("s0;mh330;");
        due("sins", x.sins(0, 9), 3);
        due("sins", x.sins(0, 0), 9);
        due("too many", x.sins(0, 10), -6);
        due("too few", x.sins(0, -1), -4);
        due("no MAN", x.sins(1, -1), -1);
        due("no MAN", x.sins(-1, 10), -1);
        due("stays", x.sins(0, 1), 0);
        due("count(14)", x.count(14), 1);
        due("count(16)", x.count(16), 1);
    }

    private static void p9() {
        promise = "9";
        AnchorsForConfession x = told("s4;");
        due("loads", x.loads(0, 9), 4);
        due("loads", x.loads(0, 0), 9);
        due("too heavy", x.loads(0, 10), -6);
        due("too light", x.loads(0, -1), -4);
        due("no SHIP", x.loads(1, -1), -1);
        due("no SHIP", x.loads(-1, 3), -1);
        due("stays", x.ship(0, 0), 0);
    }

    private static void p10() {
        promise = "10";
        AnchorsForConfession x = told("s4;ms730;");
        due("turn", x.turn(0, 5, 9), 37);
        due("turn", x.turn(0, 0, 0), 59);
        due("turn", x.turn(0, 4, 2), 0);
        due("no KIND", x.turn(0, 6, -1), -2);
        due("no KIND", x.turn(0, -1, 10), -2);
        due("too small", x.turn(0, 0, -1), -4);
        due("too great", x.turn(0, 0, 10), -6);
        due("no MAN", x.turn(1, 6, -1), -1);
        due("stays", x.turn(0, 0, 0), 42);
        due("sins stay", x.man(0, 2), 3);
    }

    private static void p11() {
        promise = "11";
        AnchorsForConfession x = told("s0;s9;s0;mh910;mh912;");
        x.tells(0);
        due("1 tide", x.tides(1), 1);
        x.tells(1);
        due("2 tides", x.tides(1), 5);
        due("3 tides", x.tides(1), 4);
        due("4 tides", x.tides(1), 0);
        due("0", x.tides(0), -4);
        due("min", x.tides(Integer.MIN_VALUE), -4);
        due("61", x.tides(61), -6);
        due("max", x.tides(Integer.MAX_VALUE), -6);
        due("TIDE", x.count(2), 4);
        for (int i = 0; i < 16; i++) {
            due("60", x.tides(60), 0);
        }
        due("above 999", x.tides(36), -6);
        due("to 999", x.tides(35), 0);
        due("TIDE", x.count(2), 999);
        due("above 999", x.tides(1), -6);
        due("in thought", x.shipThen(0, 1, 1), 4);
        due("count(16)", x.count(16), 4);
    }

    private static void p12() {
        promise = "12";
        AnchorsForConfession x = told("s0;s4;mh930;");
        x.tells(0);
        for (int n = 0; n <= 60; n++) {
            due("out then", x.shipThen(0, n, 0), Math.max(0, 3 - n));
            due("in then", x.shipThen(1, n, 0), 0);
            due("holds then", x.shipThen(1, n, 1), n % 2 == 0 ? 16 : 14);
        }
        due("no SHIP", x.shipThen(2, -1, 2), -1);
        due("no SHIP", x.shipThen(-1, 0, 0), -1);
        due("below", x.shipThen(0, -1, 2), -4);
        due("room", x.shipThen(0, 61, 2), -6);
        due("what", x.shipThen(0, 60, 2), -2);
        due("what", x.shipThen(0, 0, -1), -2);
        due("in mind alone", x.count(2), 0);
        due("in mind alone", x.ship(0, 2), 3);
    }

    private static void p13() {
        promise = "13";
        AnchorsForConfession x = told("s0;s4;mh930;ms000;ms060;mp020;mh001;");
        x.tells(0);
        for (int n = 0; n <= 60; n++) {
            int out = Math.min(n, 3);
            due("hand", x.sinsThen(0, n), 2 + out);
            due("small one", x.sinsThen(1, n), 2 * out);
            due("9 at most", x.sinsThen(2, n), Math.min(9, 6 + 2 * out));
            due("priest", x.sinsThen(3, n), 2);
            due("in", x.sinsThen(4, n), 0);
        }
        due("no MAN", x.sinsThen(5, -1), -1);
        due("no MAN", x.sinsThen(-1, 61), -1);
        due("below", x.sinsThen(0, -1), -4);
        due("room", x.sinsThen(0, 61), -6);
        due("in mind alone", x.man(0, 2), 2);
    }

    private static void p14() {
        promise = "14";
        AnchorsForConfession x = told("s0;s0;s1;s0;mh310;mh211;mh333;");
        // pools 4, 3, 0, 12 against 4, 4, 7, 4
        due("fixture", x.fixture(), 6);
        x.tells(2);
        due("out is none", x.fixture(), 6);
        x.boards(0, 1);
        due("fixture", x.fixture(), 5);
        due("no ships", new AnchorsForConfession().fixture(), 0);
    }

    private static void p15() {
        promise = "15";
        AnchorsForConfession x = told("s2;s0;s0;mh120;mh410;mm190;mh411;mh912;t4;");
        // ship 0 lacks 10: 5 of man 1, then 2, 2 of man 0, then 2 of man 2
        due("fewest", x.fewest(0, 0), 4);
        due("who", x.fewest(0, 1), 0);
        x.sins(1, 0);
        // 2, 2 of man 0, 3 times 2 of man 2
        due("fewest", x.fewest(0, 0), 5);
        due("who", x.fewest(0, 1), 2);
        x.sins(2, 2);
        due("can not", x.fewest(0, 0), -9);
        due("nobody", x.fewest(0, 1), -9);
        x.sins(1, 1);
        x.loads(0, 0);
        due("one word", x.fewest(0, 0), 1);
        due("who", x.fewest(0, 1), 1);
        due("no SHIP", x.fewest(3, 2), -1);
        due("no SHIP", x.fewest(-1, 0), -1);
        due("what", x.fewest(0, 2), -2);
        due("what", x.fewest(0, -1), -2);
        AnchorsForConfession y = told("s0;mh910;t0;");
        due("what of one out", y.fewest(0, 2), -2);
        due("out", y.fewest(0, 0), -3);
        due("out", y.fewest(0, 1), -3);
        AnchorsForConfession z = told("s1;mh210;mp990;mh490;t0;w01;");
        due("holds 5, loose 3", z.ship(0, 4), 2);
        due("a priest lifts none", z.fewest(0, 1), 2);
        z.sins(2, 0);
        due("a priest lifts none", z.fewest(0, 0), -9);
        z.loads(0, 0);
        due("no word", z.fewest(0, 0), 0);
        due("no word of whom", z.fewest(0, 1), -9);
        // the least of several, in what they are worth as in how many they tell
        AnchorsForConfession w = told("s2;mh410;mh410;mh490;");
        due("two words", w.fewest(0, 0), 2);
        due("of several the least", w.fewest(0, 1), 0);
        AnchorsForConfession u = told("s9;mh090;mh090;mh090;mh090;");
        due("31 words", u.fewest(0, 0), 31);
        due("31 words", u.fewest(0, 1), 0);
        // HEARD stays in thought: 9 heard, the tenth word holds no more
        AnchorsForConfession v = told("s2;mp090;mh910;");
        for (int i = 0; i < 9; i++) {
            v.tells(0);
        }
        due("heard as now", v.fewest(0, 0), 1);
    }

    private static void p16() {
        promise = "16";
        AnchorsForConfession x = told("s2;mm490;");
        // flood: 10 by 5 each; ebb: 8 by 10 each
        due("2 words", x.when(0, 2), 0);
        due("1 word", x.when(0, 1), 1);
        due("no word", x.when(0, 0), -9);
        due("20", x.when(0, 20), 0);
        due("no SHIP", x.when(1, -1), -1);
        due("no SHIP", x.when(-1, 0), -1);
        due("below", x.when(0, -1), -4);
        due("room", x.when(0, 21), -6);
        // holds 7, then 5: loose 5 is enough then
        AnchorsForConfession y = told("s1;mh410;t0;");
        due("no word at ebb", y.when(0, 0), 1);
        // out for 3 tides, and sins come in them
        AnchorsForConfession z = told("s0;mh910;t0;");
        due("in first", z.when(0, 1), 3);
        due("in first", z.when(0, 20), 3);
        AnchorsForConfession w = told("s0;s0;mh910;ms000;t0;b01;");
        due("nobody ever", w.when(1, 20), -9);
        // SINS as they are then: 6 of worth 1 lift it at flood or at ebb
        AnchorsForConfession v = told("s0;s1;mh910;ms000;t0;");
        v.boards(0, 1);
        due("sins of then", v.when(0, 4), 3);
        due("not told by that", v.when(0, 1), -9);
        due("in mind alone", v.count(2), 0);
        // behind so many tides, not at the last: a ship that only ebb lets rise
        AnchorsForConfession u = told("s1;mh140;mh010;w01;");
        due("now", u.when(0, 3), 0);
        u.sins(0, 2);
        due("now at ebb", u.when(0, 3), 0);
        u.tides(1);
        due("next ebb", u.when(0, 3), 1);
    }

    private static void p17() {
        promise = "17";
        AnchorsForConfession x = told("s2;s1;s0;s0;mh490;mh391;mh132;mh910;");
        // 10 by 10; 7 by 4, 4; 4 by 2, 2; 4 by nobody
        due("cheapest", x.cheapest(), 0);
        x.sins(3, 0);
        due("of several the least", x.cheapest(), 0);
        x.boards(0, 3);
        due("cheapest", x.cheapest(), 3);
        x.tells(0);
        due("out is not", x.cheapest(), 1);
        due("none", told("s0;s1;").cheapest(), -9);
        due("no ships", new AnchorsForConfession().cheapest(), -9);
        due("one out alone", told("s0;mh990;t0;").cheapest(), -9);
    }

    private static void p18() {
        promise = "18";
        AnchorsForConfession x = told("s0;s0;s0;mh310;mh310;");
        due("not more than one", x.rise(), 1);
        due("berth", x.berth(0), 1);
        due("berth", x.berth(1), 1);
        x.boards(0, 2);
        due("none more", x.berth(0), -9);
        due("none more", x.berth(1), -9);
        x.sins(1, 0);
        due("none more", x.berth(1), -9);
        due("no MAN", x.berth(2), -1);
        due("no MAN", x.berth(-1), -1);
        AnchorsForConfession y = told("s0;s0;s1;s0;mh990;mh110;mh111;mh113;t0;");
        // ship 0 is out; man 1 makes ship 1 rise with man 2, or ship 3 with man 3
        due("of several the least", y.berth(1), 1);
        due("onto one that is in", y.berth(0), 1);
        y.boards(0, 2);
        due("man 0 lifts 2", y.rise(), 1);
        due("man 2 lifts ship 3", y.berth(2), 3);
        due("stays", y.man(2, 3), 1);
        AnchorsForConfession z = told("s0;mh990;mh990;t0;");
        due("none is in", z.berth(1), -9);
        due("onto the first", told("s0;s9;mh311;").berth(0), 0);
    }

    private static void p19() {
        promise = "19";
        AnchorsForConfession x = told("s0;s0;s1;s0;mh310;mh211;mh333;");
        due("rise", x.rise(), 2);
        x.tells(2);
        due("out is not", x.rise(), 1);
        x.sins(1, 2);
        due("more than it lacks", x.rise(), 2);
        due("no ships", new AnchorsForConfession().rise(), 0);
        AnchorsForConfession y = told("s1;mh410;t0;w01;");
        due("it lacks nothing", y.rise(), 1);
    }

    private static void p20() {
        promise = "20";
        AnchorsForConfession x = told("s0;s2;mh510;mh210;mh411;mh011;");
        // 6 + 3 and 5 + 1 against 4 and 10; 0 with 2: 8 and 7; 0 with 3: 4 and 11
        due("rise", x.rise(), 1);
        due("deal", x.deal(), 3);
        due("stays", x.man(0, 3), 0);
        x.sins(3, 9);
        // 9 and 14: both rise
        due("none more", x.deal(), -9);
        AnchorsForConfession y = told("s1;s0;s0;mh610;mh012;mh311;mh510;");
        // pools 13, 4, 1 against 7, 4, 4: rise 2; 0 with 1: 7, 4, 7
        due("rise", y.rise(), 2);
        due("deal", y.deal(), 1);
        AnchorsForConfession z = told("s0;s9;s0;mh910;mh910;mh002;t0;");
        // ship 0 is out; a man of it may change with one of ship 2
        due("with one out", z.deal(), 12);
        due("the same ship", told("s0;s9;mh910;mh910;").deal(), -9);
        due("no men", new AnchorsForConfession().deal(), -9);
    }

    private static void p21() {
        promise = "21";
        AnchorsForConfession x = told("s1;s0;s0;mh410;mh210;mh010;mh311;mh202;");
        // 5 + 3 + 1 against 7: not without 0 (4), not without 1 (6), without 2 (8); 4 against 4; 3 against 4
        due("hush", x.hush(), 11);
        x.sins(1, 9);
        due("hush", x.hush(), 10);
        x.tells(3);
        due("out is none", x.hush(), 2);
        due("no men", new AnchorsForConfession().hush(), 0);
        AnchorsForConfession y = told("s0;mh310;");
        due("all it has", y.hush(), 1);
        say(y, "mh310;");
        due("as much without him", y.hush(), 0);
        y.sins(0, 0);
        due("the other is all it has", y.hush(), 2);
        y.sins(1, 0);
        due("can not with them", y.hush(), 0);
    }

    private static void p22() {
        promise = "22";
        AnchorsForConfession x = told("s9;s0;s0;ms910;ma910;mh001;mh911;");
        // the admiral is worth 13, heard 4: ships 1 and 2
        due("who", x.loudest(0), 1);
        due("how many", x.loudest(1), 2);
        x.sins(1, 0);
        due("who", x.loudest(0), 3);
        due("how many", x.loudest(1), 1);
        x.sins(3, 0);
        due("none rises", x.loudest(0), 0);
        due("none rises", x.loudest(1), 0);
        x.sins(0, 0);
        due("nobody can", x.loudest(0), -9);
        due("nobody can", x.loudest(1), -9);
        due("what", x.loudest(2), -2);
        due("what", x.loudest(-1), -2);
        due("in mind alone", x.count(3), 0);
        x.sins(2, 1);
        due("the least who can", x.loudest(0), 2);
    }

    private static void p23() {
        promise = "23";
        AnchorsForConfession x = told("s0;s1;s0;mh910;mh090;mh391;mb911;mh002;");
        // 0 lifts ship 0; 1 can not; 2: 4; 3: ship 2 hears 1; 4 has none
        due("out", x.spree(0), 1);
        due("heard", x.spree(1), 3);
        x.sins(4, 1);
        due("heard", x.spree(1), 4);
        x.turn(2, 0, 6);
        due("out", x.spree(0), 2);
        due("those out already told", x.spree(1), 3);
        x.tells(0);
        due("out ahead of it, too", x.spree(0), 2);
        due("what", x.spree(2), -2);
        due("what", x.spree(-1), -2);
        due("in mind alone", x.count(3), 1);
    }

    private static void p24() {
        promise = "24";
        AnchorsForConfession x = told("s3;mh390;mm390;mp090;");
        // hand: 13 - 4 now, 11 - 4 behind a tide
        due("hand at flood", x.keep(0), 0);
        due("mate at flood", x.keep(1), 0);
        x.tides(1);
        due("hand at ebb", x.keep(0), 1);
        due("mate at ebb", x.keep(1), 1);
        due("priest at ebb", x.keep(2), 1);
        x.turn(0, 0, 9);
        x.loads(0, 2);
        // 8 and 10 by 10: it rises either way
        due("alike", x.keep(0), 1);
        due("no MAN", x.keep(3), -1);
        due("no MAN", x.keep(-1), -1);
        x.sins(0, 0);
        due("no sin", x.keep(0), -3);
        x.sins(0, 1);
        x.tells(0);
        due("out", x.keep(1), -3);
        due("in mind alone", x.count(2), 1);
        AnchorsForConfession z = told("s0;mh910;");
        due("it rises now, too", z.keep(0), 1);
        z.turn(0, 0, 2);
        due("it rises at ebb alone", z.keep(0), 0);
        AnchorsForConfession y = told("w60;".repeat(16) + "w39;");
        say(y, "s3;mh390;");
        due("TIDE above 999 in thought", y.keep(0), 1);
    }

    private static void p25() {
        promise = "25";
        AnchorsForConfession x = told("s0;mh320;ms990;mp590;mm210;ma010;");
        due("richest", x.richest(0), 1);
        // 4, 5, 0, 3, 4
        due("worst", x.richest(1), 1);
        x.tides(1);
        // 4, 5, 0, 6, 5
        due("worst at ebb", x.richest(1), 3);
        x.turn(1, 3, 0);
        x.turn(3, 0, 0);
        x.turn(4, 4, 0);
        x.turn(0, 0, 4);
        due("of several the least", x.richest(1), 0);
        x.sins(2, 0);
        x.sins(1, 2);
        due("of several the least", x.richest(0), 0);
        due("what", x.richest(2), -2);
        due("what", x.richest(-1), -2);
        AnchorsForConfession y = told("s0;");
        due("no men", y.richest(0), -9);
        due("no men", y.richest(1), -9);
        say(y, "mp000;");
        due("none has any", y.richest(0), 0);
        due("nothing worth", y.richest(1), 0);
    }

    private static void p26() {
        promise = "26";
        AnchorsForConfession x = told("s0;s0;s0;s0;mh910;mh001;mh002;mh012;");
        due("blameless", x.blameless(), 10);
        x.tells(0);
        due("out, too", x.blameless(), 11);
        due("no ships", new AnchorsForConfession().blameless(), 0);
    }

    private static void p27() {
        promise = "27";
        AnchorsForConfession x = told("s0;s0;mh320;mm430;ma220;mh990;");
        // 3 times 5 more, 2 times 3 more
        due("ebb", x.ebb(0), 21);
        due("empty", x.ebb(1), 0);
        x.tides(1);
        due("flood", x.ebb(0), -21);
        due("no SHIP", x.ebb(2), 1000000001);
        due("no SHIP", x.ebb(-1), 1000000001);
        due("count(11)", x.count(11), 2);
        x.tells(3);
        due("sins as now, out or in", x.ebb(0), -21);
    }

    private static void p28() {
        promise = "28";
        AnchorsForConfession x = told("s0;s1;s0;mh310;mh211;mh992;");
        // 0, 7 - 3, 0
        due("missing", x.missing(), 4);
        x.sins(0, 0);
        due("missing", x.missing(), 8);
        x.sins(2, 1);
        x.tells(2);
        due("out is none", x.missing(), 8);
        due("no ships", new AnchorsForConfession().missing(), 0);
    }

    private static void p29() {
        promise = "29";
        AnchorsForConfession x = told("s1;s1;mh610;mh610;mh311;mh210;");
        // either lifts the ship alone: 00 is none, 01 is
        due("two", x.two(0, 1), 1);
        due("two", x.two(1, 0), 1);
        // 2 can not lift ship 1 by 4: he keeps; 0 tells
        due("two", x.two(0, 2), 10);
        due("two", x.two(2, 0), 1);
        due("neither can", x.two(2, 3), 0);
        // 4 and 3 together lift 7: each is better off with the other, but has told for 2
        x.boards(2, 0);
        due("00 first", x.two(2, 3), 0);
        due("one twice", x.two(0, 0), -1);
        due("no MAN", x.two(0, 4), -1);
        due("no MAN", x.two(-1, 0), -1);
        x.sins(3, 0);
        due("can not", x.two(3, 0), -3);
        due("can not", x.two(0, 3), -3);
        due("one twice first", x.two(3, 3), -1);
        due("in mind alone", x.count(3), 0);
        // a lifts b's ship by being heard, not his own; b lifts a's so
        AnchorsForConfession y = told("s0;s0;ma910;mb911;w01;");
        due("the admiral lifts all", y.two(0, 1), 10);
        due("the other way about", y.two(1, 0), 1);
        AnchorsForConfession z = told("s0;s0;mh310;mb911;");
        due("he lifts his own", z.two(0, 1), 10);
        // the first is lifted by his own word or the other's, the other by both words, first's ahead
        AnchorsForConfession w = told("s0;s4;ma910;ma311;w01;");
        due("no pair", w.two(0, 1), -9);
        due("the other ahead", w.two(1, 0), 1);
    }

    private static void p30() {
        promise = "30";
        AnchorsForConfession x = told("s0;mh910;");
        due("no tide", x.storm(0, 0, 2, 0), 0);
        due("no tide", x.storm(0, 0, 2, 1), 1);
        // holds 4 ahead of the first tide, 2 ahead of the other: a storm in that one is enough
        due("2 tides", x.storm(0, 2, 3, 0), 1);
        due("2 tides", x.storm(0, 2, 3, 1), 3);
        x.loads(0, 1);
        // holds 7, 5, 7, 5: 3 storms with one in the last tide (3 times 2 ways), or 4 (1 way)
        due("4 tides", x.storm(0, 4, 3, 0), 7);
        due("4 tides", x.storm(0, 4, 3, 1), 81);
        x.loads(0, 0);
        due("1 tide", x.storm(0, 1, 20, 0), 0);
        due("1 tide", x.storm(0, 1, 20, 1), 1);
        x.tides(1);
        // holds 2 at ebb
        due("1 tide", x.storm(0, 1, 20, 0), 1);
        due("1 tide", x.storm(0, 1, 20, 1), 20);
        // at once, or never: the other tide is a flood's
        due("2 tides", x.storm(0, 2, 3, 0), 1);
        due("2 tides", x.storm(0, 2, 3, 1), 3);
        x.tells(0);
        due("out", x.storm(0, 0, 2, 0), 1);
        due("out", x.storm(0, 0, 2, 1), 1);
        due("out", x.storm(0, 2, 7, 0), 1);
        due("in", x.storm(0, 3, 7, 0), 0);
        due("no SHIP", x.storm(1, -1, 1, 2), 4000000000000000001L);
        due("no SHIP", x.storm(-1, 0, 2, 0), 4000000000000000001L);
        due("n below", x.storm(0, -1, 2, 2), 4000000000000000004L);
        due("t below", x.storm(0, 8, 1, 2), 4000000000000000004L);
        due("t min", x.storm(0, 0, Integer.MIN_VALUE, 0), 4000000000000000004L);
        due("n above", x.storm(0, 8, 2, 2), 4000000000000000006L);
        due("t above", x.storm(0, 7, 21, 2), 4000000000000000006L);
        due("part", x.storm(0, 7, 20, 2), 4000000000000000002L);
        due("part", x.storm(0, 7, 20, -1), 4000000000000000002L);
        due("count(11)", x.count(11), 2);
        due("count(12)", x.count(12), 2);
        due("count(14)", x.count(14), 3);
        due("count(16)", x.count(16), 2);
        due("in mind alone", x.count(2), 1);
        // loose enough by the ebb alone, it rises only in a storm: 1 of 2
        AnchorsForConfession y = told("s1;mh410;t0;w01;");
        due("only in a storm", y.storm(0, 1, 2, 0), 1);
        due("only in a storm", y.storm(0, 1, 2, 1), 2);
        AnchorsForConfession z = told("s4;");
        due("7 storms at flood do not lift 16", z.storm(0, 7, 20, 0), 0);
        z.tides(1);
        due("7 storms at ebb lift 14", z.storm(0, 7, 20, 0), 1);
        due("7 storms at ebb lift 14", z.storm(0, 7, 20, 1), 1280000000L);
    }

    private static void p31() {
        promise = "31";
        AnchorsForConfession x = new AnchorsForConfession();
        due("of none", x.mean(0), 0);
        due("of none", x.mean(1), 1);
        say(x, "s0;mh000;mh000;mh000;mh000;");
        due("no sins", x.mean(0), 0);
        due("no sins", x.mean(1), 1);
        AnchorsForConfession y = told("s0;mh090;");
        due("9 by 1", y.mean(0), 9);
        due("9 by 1", y.mean(1), 1);
        x.sins(1, 6);
        due("3 by 2", x.mean(0), 3);
        due("3 by 2", x.mean(1), 2);
        x.sins(3, 2);
        due("2 by 1", x.mean(0), 2);
        due("2 by 1", x.mean(1), 1);
        due("part", x.mean(2), 4000000000000000002L);
        due("part", x.mean(-1), 4000000000000000002L);
        due("count(12)", x.count(12), 2);
    }

    private static void p32() {
        promise = "32";
        AnchorsForConfession x = told("s1;s1;s0;mh310;mh311;mh311;mh310;ma112;mh301;");
        due("all who can TELL", x.whoTold(), 31);
        row(x, 4);
        due("0 and 3", x.whoTold(), 9);
        row(x, 0, 4);
        due("1 and 2", x.whoTold(), 6);
        row(x, 0, 4, 0);
        due("1 and 2", x.whoTold(), 6);
        // the admiral: 5 of his own, 1 heard
        row(x, 1, 1, 98);
        due("out", x.whoTold(), 16);
        row(x, 1, 1, 5);
        due("not in", x.whoTold(), 0);
        row(x, 0, 4, 0, 0);
        due("a SHIP too many", x.whoTold(), 0);
        due("the ROW stays", x.count(6), 4);
        x.tells(4);
        row(x, 5, 1, 98);
        due("out as it was", x.whoTold(), 9);
        due("in mind alone", x.count(3), 1);
    }

    private static void p33() {
        promise = "33";
        AnchorsForConfession x = told("s9;s9;mh410;mh001;");
        due("nothing told", x.whatIs(0, 0), 63);
        due("nothing told", x.whatIs(0, 1), 1023);
        due("he can not", x.whatIs(1, 0), 0);
        due("he can not", x.whatIs(1, 1), 0);
        // FIGURE 4 at flood: h 5, p 0, m 5, s 2, a 8 and 2, b 0 and 1
        row(x, 5, 0);
        due("h or m", x.whatIs(0, 0), 5);
        due("figure 4", x.whatIs(0, 1), 16);
        row(x, 0);
        due("p or b", x.whatIs(0, 0), 34);
        due("no figure", x.whatIs(0, 1), 0);
        row(x, 0, 1);
        due("b", x.whatIs(0, 0), 32);
        row(x, 8, 2);
        due("a", x.whatIs(0, 0), 16);
        row(x, 2);
        due("s", x.whatIs(0, 0), 8);
        x.turn(0, 3, 4);
        due("half, cut", x.whatIs(0, 1), 24);
        x.turn(0, 1, 4);
        row(x, 0, 0);
        due("any figure", x.whatIs(0, 1), 1023);
        due("the ROW stays", x.count(6), 2);
        due("no MAN", x.whatIs(2, 2), -1);
        due("no MAN", x.whatIs(-1, 0), -1);
        due("what", x.whatIs(0, 2), -2);
        due("what of one who can not", x.whatIs(1, -1), -2);
        due("stays", x.turn(0, 1, 4), 14);
    }

    private static void p34() {
        promise = "34";
        AnchorsForConfession x = new AnchorsForConfession();
        due("row(100)", x.row(100), -6);
        due("row(-1)", x.row(-1), -4);
        for (int i = 1; i <= 16; i++) {
            due("row", x.row(i % 2 == 0 ? 99 : 0), i);
        }
        due("17", x.row(0), -6);
        due("17 and below", x.row(-1), -4);
        due("count(6)", x.count(6), 16);
        due("count(14)", x.count(14), 2);
        due("count(16)", x.count(16), 2);
    }

    private static void p35() {
        promise = "35";
        AnchorsForConfession x = told("s2;s0;mh911;");
        due("no numbers", x.judge(), -9);
        row(x, 10, 4);
        due("so", x.judge(), -9);
        due("none then", x.count(6), 0);
        row(x, 10);
        due("so", x.judge(), -9);
        row(x, 10, 5);
        due("not 1", x.judge(), 1);
        due("none then", x.count(6), 0);
        row(x, 9, 5);
        due("not 0", x.judge(), 0);
        row(x, 10, 4, 0);
        due("no SHIP 2", x.judge(), 2);
        x.tells(0);
        row(x, 10, 4);
        due("out holds, too", x.judge(), -9);
    }

    private static void p36() {
        promise = "36";
        AnchorsForConfession x = new AnchorsForConfession();
        due("none", x.clear(), 0);
        x.row(3);
        x.row(4);
        due("two", x.clear(), 2);
        due("none then", x.count(6), 0);
        due("first again", x.row(3), 1);
    }

    private static void p37() {
        promise = "37";
        AnchorsForConfession x = told("s0;mb930;");
        // he tells at each of 12 tides while he has a sin, and lifts nothing
        due("rising", x.lots(1, 0, 0), 0);
        due("sins", x.lots(1, 0, 1), 0);
        AnchorsForConfession y = told("s0;mh910;");
        // tells at TIDE 0, out for 3, 3 sins then; tells at 3, 6, 9: four risings, 2 more sins each time
        due("rising", y.lots(1, 77, 0), 4);
        due("sins", y.lots(1, 77, 1), 9);
        due("20 seasons, each from now", y.lots(20, 77, 0), 80);
        due("20 seasons, each from now", y.lots(20, 77, 1), 180);
        // a draw of one of two, the other without sins, by seed
        AnchorsForConfession z = told("s9;mp090;mp000;");
        int seed = -5;
        int told = 0;
        for (int i = 0; i < 24; i++) {
            seed = seed * 1664525 + 1013904223;
            told += (seed & 0x7fffffff) / 256 % 2 == 0 ? 1 : 0;
            if (i == 11) {
                due("sins by draws", z.lots(1, -5, 1), 9 - Math.min(9, told));
                z.sins(0, 9);
                due("told more than he has", told > 9 ? 1 : 0, 0);
            }
        }
        due("the seed goes on", z.lots(2, -5, 1), 18 - told);
        due("below", x.lots(0, 0, 2), -4);
        due("room", x.lots(21, 0, 2), -6);
        due("what", x.lots(20, 0, 2), -2);
        due("what", x.lots(20, 0, -1), -2);
        due("no MEN", told("s0;").lots(1, 0, 0), -3);
        due("what first", told("s0;").lots(1, 0, 2), -2);
        due("in mind alone", y.count(2), 0);
    }

    private static void p38() {
        promise = "38, 39";
        AnchorsForConfession x = told("s2;s0;mh910;w02;");
        due("none yet", x.on(), -3);
        due("image", x.image(), 2);
        say(x, "s5;mb332;v09;t0;w07;");
        x.boards(0, 1);
        x.turn(0, 1, 1);
        x.loads(0, 7);
        x.row(5);
        x.letter(65);
        x.sins(9, 9);
        due("on", x.on(), 2);
        due("SHIPS", x.count(0), 2);
        due("MEN", x.count(1), 1);
        due("TIDE", x.count(2), 2);
        due("HEARD", x.count(3), 0);
        due("all in", x.count(4), 0);
        due("SINS", x.count(5), 1);
        due("the ROW stays", x.count(6), 1);
        due("letters stay", x.count(7), 1);
        due("REFUSALS stay", x.count(11), 1);
        due("REFUSALS stay", x.count(13), 1);
        due("heavy", x.ship(0, 0), 2);
        due("loose", x.ship(0, 1), 0);
        due("who", x.turn(0, 0, 9), 9);
        due("where", x.man(0, 3), 0);
        x.tides(1);
        due("on again", x.on(), 2);
        x.tells(0);
        due("a new image", x.image(), 2);
        x.tides(3);
        due("on from the new one", x.on(), 2);
        due("out as then", x.ship(0, 2), 3);
        due("heard as then", x.count(3), 1);
    }

    private static void p40() {
        promise = "40";
        AnchorsForConfession x = told("s2;s0;s0;mh911;mh330;w03;t0;");
        x.row(1);
        x.row(2);
        x.letter(1);
        x.letter(2);
        x.letter(3);
        long[] due = {3, 2, 3, 1, 2, 3, 2, 3};
        for (int what = 0; what < 8; what++) {
            due("count(" + what + ")", x.count(what), due[what]);
        }
        x.man(5, 0);
        x.man(0, 7);
        x.man(0, 7);
        x.on();
        x.on();
        x.on();
        x.letter(-1);
        x.letter(256);
        x.letter(256);
        long[] refusals = {1, 2, 3, 1, 0, 2};
        for (int what = 11; what <= 16; what++) {
            due("count(" + what + ")", x.count(what), refusals[what - 11]);
        }
        int[] others = {-1, 8, 9, 10, 17, Integer.MAX_VALUE, Integer.MIN_VALUE};
        for (int what : others) {
            due("count(" + what + ")", x.count(what), -9);
        }
        due("none of these is counted", x.count(12), 2);
    }

    /** As many SHIPS and MEN as there can be. */
    private static void full() {
        promise = "a full harbour";
        AnchorsForConfession x = told("s0;s0;s0;s0;s0;mh310;mh311;mh312;mh313;mh314;mh320;mh321;mh001;");
        due("fixture", x.fixture(), 0);
        due("fewest", x.fewest(4, 1), 4);
        due("cheapest", x.cheapest(), 0);
        due("rise", x.rise(), 5);
        due("deal", x.deal(), -9);
        due("hush", x.hush(), 28);
        due("loudest", x.loudest(1), 1);
        due("spree", x.spree(0), 5);
        due("spree", x.spree(1), 5);
        due("richest", x.richest(0), 5);
        due("blameless", x.blameless(), 0);
        due("missing", x.missing(), 0);
        due("berth", x.berth(7), -9);
        due("crew", x.ship(1, 6), 194);
        due("whoTold", x.whoTold(), 127);
        row(x, 4, 4, 4, 4, 4);
        due("judge", x.judge(), -9);
        row(x, 98, 0, 0, 0, 0);
        due("whoTold", x.whoTold(), 33);
        row(x, 0, 0, 0, 0, 98);
        due("whatIs", x.whatIs(4, 1), 1016);
        row(x, 0, 0, 0, 0, 0, 0);
        due("whoTold", x.whoTold(), 0);
        due("when", x.when(4, 1), 0);
        due("sinsThen", x.sinsThen(7, 60), 0);
        due("shipThen", x.shipThen(4, 60, 1), 4);
        due("storm", x.storm(4, 2, 20, 1), 20);
        due("mean", x.mean(0), 9);
        due("mean", x.mean(1), 8);
        due("count(5)", x.count(5), 9);
        due("count(4)", x.count(4), 0);
        due("tells", x.tells(4), 1);
        due("count(4)", x.count(4), 16);
        due("lots", x.lots(20, 1, 0) > 0 ? 1 : 0, 1);
        due("tides", x.tides(60), 0);
    }
}
