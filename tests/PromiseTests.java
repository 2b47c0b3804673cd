/** Each promise by itself: ordinary inputs, the edges that the document names, wrong inputs. */
public final class PromiseTests {
    private static final int BAD = -1, NOT = -2, FULL = -3, STATE = -5, VOID = -2000000000;
    private static final int MIN = Integer.MIN_VALUE, MAX = Integer.MAX_VALUE;
    private static final long NO_LONG = Long.MIN_VALUE;
    private static int wrong = 0, promise = 0;

    private static void due(String call, long got, long want) {
        if (got == want) return;
        wrong++;
        System.out.println("promise " + promise + ": " + call + " answered " + got + ", due is " + want);
    }

    private static StarfishWatch fresh() { return new StarfishWatch(); }

    /** Stars in these cells. */
    private static StarfishWatch sky(int... cells) {
        StarfishWatch x = fresh();
        for (int c : cells) due("star(" + c + ")", x.star(c) >= 0 ? 1 : 0, 1);
        return x;
    }

    private static void up(StarfishWatch x, int... stars) {
        for (int s : stars) x.mend(s, 4, 1);
    }

    /** A row of bytes on a shelf. */
    private static void bytes(StarfishWatch x, int shelf, int... all) {
        due("row", x.row(shelf, 0, all.length), 1);
        for (int i = 0; i < all.length; i++) due("put", x.put(shelf, i, all[i]), 1);
    }

    private static int tell(StarfishWatch x, String text) {
        for (int i = 0; i < text.length(); i++) x.feed(text.charAt(i));
        return x.law();
    }

    /** What a text is worth for star 0 and thrower 0 now, by 0 .. 12. */
    private static int worth(String text, int f, int s, int b, int cell, int a, int m) {
        StarfishWatch x = sky(cell);
        x.thrower(f);
        x.mend(0, 2, s);
        x.mend(0, 1, b);
        x.mend(0, 3, a);
        x.mend(0, 9, m);
        due("law " + text, tell(x, text), 1);
        return x.odds(0);
    }

    private static void worth(String text, int want) {
        due("odds by " + text, worth(text, 7, 4, 3, 17, 6, 11), want);
    }

    private static void fault(String text, int want) {
        due("fault of " + text, tell(fresh(), text), -100 - want);
    }

    public static void main(String[] args) {
        one(); two(); three(); four(); five(); six(); seven(); eight(); nine(); nineFaults();
        ten(); eleven(); twelve(); thirteen(); fourteen(); fifteen(); sixteen(); seventeen();
        eighteen(); nineteen(); twenty(); twentyOne(); twentyTwo(); twentyThree(); twentyFour();
        twentyFive(); twentySix(); twentySeven(); twentyEight(); twentyNine(); thirtyOne();
        thirtyThree(); thirtyFour(); thirtyFive(); thirtySix(); thirtySeven(); thirtyEight();
        thirtyNine(); forty(); fortyOne(); fortyTwo(); planEnds(); anything();
        System.out.println(wrong == 0 ? "all promises hold" : wrong + " answers are not as due");
        if (wrong != 0) System.exit(1);
    }

    private static void one() {
        promise = 1;
        StarfishWatch x = fresh();
        for (int i = 0; i < 8; i++) due("count(" + i + ")", x.count(i), 0);
        for (int i = 0; i < 5; i++) due("led(" + i + ")", x.led(i), 0);
        due("of(0,9)", x.of(0, 9), 0);
        due("of(0,10)", x.of(0, 10), 480);
        due("of(0,11)", x.of(0, 11), 1);
        for (int i = 0; i < 6; i++) due("taken", x.taken(i, 0), -11);
        due("image", x.back(), STATE);
        StarfishWatch y = sky(3);
        due("objects are apart", x.count(0), 0);
        due("objects are apart", y.count(0), 1);
    }

    private static void two() {
        promise = 2;
        StarfishWatch x = fresh();
        for (int c : new int[] {-1, 48, MIN, MAX}) due("star(" + c + ")", x.star(c), BAD);
        due("star(47)", x.star(47), 0);
        due("star(0)", x.star(0), 1);
        due("star(47)", x.star(47), BAD);
        int[] first = {47, 5, 5, 5, 0, 0};
        for (int what = 0; what < 6; what++) due("of(0," + what + ")", x.of(0, what), first[what]);
        for (int i = 2; i < 10; i++) due("star", x.star(i), i);
        due("an eleventh", x.star(20), FULL);
        due("an eleventh, taken", x.star(0), BAD);
        due("an eleventh, wrong", x.star(48), BAD);
        due("count(0)", x.count(0), 10);
        due("gone stars keep their cells", x.pocket(0), 0);
        due("star(47)", x.star(47), BAD);
    }

    private static void three() {
        promise = 3;
        StarfishWatch x = fresh();
        bytes(x, 0, 0, 1, 0, 47, 9, 9, 5, 5);
        due("stars", x.stars(0, 0, 10), 2);
        due("of", x.of(1, 0), 47);
        due("of", x.of(1, 1), 9);
        due("of", x.of(1, 2), 9);
        due("of", x.of(0, 1), 1);
        due("of", x.of(0, 2), 0);
        due("of", x.of(0, 3), 5);
        due("of", x.of(0, 4), 0);
        bytes(x, 0, 9, 10, 3, 6, 0, 3, 7, 1, 10, 8, 1, -1, 48, 1, 1, -1, 2, 2);
        for (int i = 0; i < 18; i += 3) due("not as it may be", x.stars(0, i, 1), 0);
        bytes(x, 1, 10, 1, 1, 11, 1, 1, 10, 1, 1, 12, 1, 1);
        due("its cell taken by one of them", x.stars(1, 0, 4), 2);
        due("n of them", x.stars(1, 9, 1), 1);
        bytes(x, 2, 99, 20, 3, 4, 21, 3);
        due("from a place within, ending within a three", x.stars(2, 1, 2), 1);
        x.keep(2, -1);
        due("count", x.count(0), 6);
        due("of", x.of(5, 12), NOT);
        due("i below 0", x.stars(1, -1, 1), 0);
        for (int i : new int[] {12, 60, 61, MAX, MAX - 1, MAX - 2, MIN}) due("i " + i, x.stars(1, i, 1), 0);
        due("missing", x.stars(2, 0, 1), 0);
        due("missing, i below 0", x.stars(2, -1, 1), 0);
        x.body(0);
        x.keep(3, 0);
        due("a body", x.stars(3, 0, 1), -12);
        for (int sort = 1; sort < 5; sort++) {
            x.row(4, sort, 6);
            due("sort " + sort, x.stars(4, 0, 1), -12);
            due("sort " + sort, x.stars(4, -1, 1), -12);
        }
        due("shelf 6", x.stars(6, 0, 1), BAD);
        due("shelf -1", x.stars(-1, 0, 1), BAD);
        due("n 0", x.stars(1, 0, 0), BAD);
        due("n 11", x.stars(1, 0, 11), BAD);
        due("n 0 of nothing", x.stars(2, 0, 0), BAD);
        bytes(x, 5, 40, 1, 1, 41, 1, 1, 42, 1, 1, 43, 1, 1, 44, 1, 1, 45, 1, 1);
        due("till full", x.stars(5, 0, 6), 4);
        due("full", x.stars(5, 12, 1), 0);
        due("count", x.count(0), 10);
    }

    private static void four() {
        promise = 4;
        StarfishWatch x = fresh();
        due("thrower(-1)", x.thrower(-1), BAD);
        due("thrower(10)", x.thrower(10), BAD);
        for (int i = 0; i < 4; i++) due("thrower", x.thrower(3 * i), i);
        due("a fifth", x.thrower(1), FULL);
        due("a fifth, wrong", x.thrower(10), BAD);
        due("flat", x.of(3, 6), 9);
        due("speed", x.of(3, 7), 3);
        due("count", x.count(6), 4);
    }

    private static void five() {
        promise = 5;
        StarfishWatch x = fresh();
        for (int v : new int[] {0, 1024, -1, MIN, MAX}) due("ship(" + v + ")", x.ship(v), BAD);
        for (int i = 0; i < 5; i++) due("ship", x.ship(1 << i), i);
        due("ship(1023)", x.ship(1023), 5);
        due("a seventh", x.ship(1), FULL);
        due("a seventh, wrong", x.ship(0), BAD);
        due("needs", x.of(5, 8), 1023);
        due("count", x.count(7), 6);
    }

    private static void six() {
        promise = 6;
        StarfishWatch x = sky(4, 5);
        x.thrower(2);
        x.ship(6);
        int[][] range = {{0, 47}, {1, 9}, {0, 9}, {0, 9}, {0, 1}, {0, 1}, {0, 9}, {1, 9}, {1, 1023}, {0, 999}, {0, 999}, {MIN, MAX}};
        int[] holders = {2, 2, 2, 2, 2, 2, 1, 1, 1, 1, 1, 1};
        for (int what = 0; what < 12; what++) {
            int was = x.of(0, what), low = range[what][0], high = range[what][1];
            due("low of " + what, x.mend(0, what, low), was);
            due("high of " + what, x.mend(0, what, high), low);
            if (what < 11) {
                due("below " + what, x.mend(0, what, low - 1), VOID);
                due("above " + what, x.mend(0, what, high + 1), VOID);
            }
            due("no such " + what, x.mend(holders[what], what, low), VOID);
            due("no such " + what, x.mend(-1, what, low), VOID);
            due("no such " + what, x.mend(MAX, what, low), VOID);
            due("of", x.of(0, what), high);
        }
        due("what 12", x.mend(0, 12, 1), VOID);
        due("what -1", x.mend(0, -1, 1), VOID);
        due("a taken cell", x.mend(0, 0, 5), VOID);
        due("its own cell", x.mend(0, 0, 47), 47);
        due("the left cell is free", x.mend(1, 0, 4), 5);
        due("of(4,12)", x.of(4, 12), 1);
        due("seed of -2000000000", x.mend(0, 11, VOID), MAX);
        due("seed", x.mend(0, 11, 3), VOID);
    }

    private static void seven() {
        promise = 7;
        StarfishWatch x = sky(0, 47);
        due("of(0,12)", x.of(0, 12), 0);
        due("of(47,12)", x.of(47, 12), 1);
        due("of(46,12)", x.of(46, 12), NOT);
        due("of(48,12)", x.of(48, 12), VOID);
        due("of(-1,12)", x.of(-1, 12), VOID);
        due("of(2,0)", x.of(2, 0), VOID);
        due("of(-1,0)", x.of(-1, 0), VOID);
        due("of(0,6)", x.of(0, 6), VOID);
        due("of(0,7)", x.of(0, 7), VOID);
        due("of(0,8)", x.of(0, 8), VOID);
        due("of(1,9)", x.of(1, 9), VOID);
        due("of(0,13)", x.of(0, 13), VOID);
        due("of(0,-1)", x.of(0, -1), VOID);
        x.mend(0, 0, 3);
        due("moved", x.of(3, 12), 0);
        due("moved", x.of(0, 12), NOT);
        x.mend(1, 11, 7);
        due("nothing changed", x.of(0, 11), 1);
    }

    private static void eight() {
        promise = 8;
        StarfishWatch x = fresh();
        for (int v : new int[] {-1, 256, MIN, MAX}) due("feed(" + v + ")", x.feed(v), BAD);
        for (int i = 1; i <= 120; i++) due("feed", x.feed(i % 2 == 0 ? 0 : 255), i);
        due("a byte more", x.feed(1), FULL);
        due("a byte more, wrong", x.feed(256), BAD);
        due("count(2)", x.count(2), 120);
    }

    private static void nine() {
        promise = 9;
        worth("7", 7);
        worth("f", 7);
        worth("s", 4);
        worth("b", 3);
        worth("y", 2);
        worth("a", 6);
        worth("m", 11);
        worth("0012", 12);
        worth("9999", 12);
        worth("-1", 0);
        worth("12-1-2-3", 6);
        worth("12-(1-2)", 12);
        worth("100/7/2", 7);
        worth("2+3*2", 8);
        worth("(2+3)*2", 10);
        worth("17%10%4", 3);
        worth("0-7/2+8", 5);
        worth("8-7%-4", 5);
        worth("8+-7%4", 5);
        worth("--5", 5);
        worth("5--2", 7);
        worth("-2*-3", 6);
        worth("!0+2", 3);
        worth("!7+2", 2);
        worth("!!7", 1);
        worth("!-0", 1);
        worth("-!0+9", 8);
        worth("3/0+5%0+2", 2);
        worth("2|0", 1);
        worth("0|0", 0);
        worth("0|0|5", 1);
        worth("2&4", 1);
        worth("2&0", 0);
        worth("1|0&0", 1);
        worth("(1|0)&0", 0);
        worth("3<4", 1);
        worth("4<4", 0);
        worth("4=4", 1);
        worth("4=5", 0);
        worth("5>4", 1);
        worth("4>4", 0);
        worth("2+2=4", 1);
        worth("1<2&3>2", 1);
        worth("(1<2)+(3>2)+(4=4)", 3);
        worth("1?5;6", 5);
        worth("0?5;6", 6);
        worth("-1?5;6", 5);
        worth("0?5", 0);
        worth("0?5;0?6;0?7", 0);
        worth("4;9", 4);
        worth("0;9", 0);
        worth("f<3?1;f<8?2;3", 2);
        worth("9999*9999*9999*9999*9999", wrapped());
        worth("2000*2000*600<0?4;5", 4);
        worth("((((((5))))))", 5);
        worth("!!!!!!5", 1);
        worth("(((!!!5)))+(((((5)))))", 5);
        StarfishWatch x = sky(0);
        x.thrower(4);
        due("a text", tell(x, "3"), 1);
        due("odds", x.odds(0), 3);
        due("no text", tell(x, "4+"), -102);
        due("the tape is empty", x.count(2), 0);
        due("the law stays", x.odds(0), 3);
        due("an empty tape", x.law(), -100);
        due("the law stays", x.odds(0), 3);
        due("another text", tell(x, "5"), 1);
        due("odds", x.odds(0), 5);
        StringBuilder long120 = new StringBuilder("1");
        while (long120.length() < 119) long120.append(";1");
        due("119 bytes", tell(x, long120.toString()), 1);
        due("odds", x.odds(0), 1);
        StringBuilder ifs = new StringBuilder();
        while (ifs.length() < 116) ifs.append("0?1;");
        due("119 bytes of ifs", tell(x, ifs + "0?3"), 1);
        due("odds", x.odds(0), 0);
        due("117 bytes", tell(x, ifs + "3"), 1);
        due("odds", x.odds(0), 3);
        due("120 bytes", tell(x, "0" + "+1".repeat(59) + "0"), 1);
        due("odds", x.odds(0), 12);
    }

    private static int wrapped() {
        int v = 9999 * 9999 * 9999 * 9999 * 9999;
        return Math.max(0, Math.min(12, v));
    }

    private static void nineFaults() {
        fault("", 0);
        fault(" ", 0);
        fault("f ", 1);
        fault(";", 0);
        fault("1;", 2);
        fault("1;;1", 2);
        fault("1?", 2);
        fault("?1", 0);
        fault("1?2?3", 3);
        fault("1?2;3?4;5?6?7", 11);
        fault("(1?2)", 2);
        fault("12345", 4);
        fault("1+00000", 6);
        fault("1f", 1);
        fault("f1", 1);
        fault("fs", 1);
        fault("F", 0);
        fault("x", 0);
        fault("1+", 2);
        fault("1+*2", 2);
        fault("1**2", 2);
        fault("+1", 0);
        fault("1!2", 1);
        fault("1<2<3", 3);
        fault("1<2=3", 3);
        fault("1=2>3", 3);
        fault("1<2&3<4<5", 7);
        fault("(1<2)<(3<4)<5", 11);
        fault("1<(2<3<4)", 6);
        fault("1|", 2);
        fault("1||2", 2);
        fault("()", 1);
        fault("(1", 2);
        fault("(1))", 3);
        fault(")", 0);
        fault("1)", 1);
        fault("(1;2)", 2);
        fault("!", 1);
        fault("-", 1);
        fault("!)", 1);
        fault("((((((", 6);
        fault("(((((((1", 6);
        fault("!!!!!!!1", 6);
        fault("-------1", 6);
        fault("(((!!!-1", 6);
        fault("((((((1+-1))))))", 8);
        fault("((((((1))))))+(((((((1", 20);
        fault("1-2\u00ff", 3);
        fault("1\u0000", 1);
        promise = 9;
        due("closed ones are open no longer", tell(fresh(), "!1+!1+!1+!1+!1+!1+!1+((((((1))))))"), 1);
        due("-(!1) has room again", tell(fresh(), "((((!-1+!-1))))"), 1);
        due("a minus between is not ahead", tell(fresh(), "((((((1-1-1))))))"), 1);
        fault("((((!-(1", 6);
        due("120 bytes", tell(fresh(), "1+1".repeat(40)), 1);
        fault("(".repeat(6) + "1" + "+1".repeat(56) + "+", 120);
    }

    private static void ten() {
        promise = 10;
        StarfishWatch x = sky(0, 47);
        x.thrower(0);
        x.thrower(9);
        due("odds(0)", x.odds(0), 6);       // 6 + 0 + 1 - 1 - 0
        due("odds(1)", x.odds(1), 10);      // 6 + 4 + 1 - 1 - 0
        due("odds(10)", x.odds(10), 4);     // 6 + 0 + 1 - 1 - 2
        x.mend(0, 2, 9);
        x.mend(0, 1, 1);
        due("held at 12", x.odds(1), 12);   // 6 + 4 + 3 - 0 - 0
        x.mend(1, 2, 0);
        x.mend(1, 1, 9);
        due("the least", x.odds(10), 1);    // 6 + 0 + 0 - 3 - 2
        x.mend(0, 2, 8);
        x.mend(0, 1, 8);
        due("each cut", x.odds(0), 6);      // 6 + 0 + 2 - 2 - 0
        for (int st : new int[] {-1, 2, 12, 20, 9, MIN, MAX, -10}) due("odds(" + st + ")", x.odds(st), BAD);
        up(x, 0);
        due("up", x.odds(0), 6);
        x.pocket(0);
        due("gone", x.odds(0), 6);
        tell(x, "m-990");
        due("by the minute", x.odds(0), 0);
        x.mend(0, 9, 999);
        due("by the minute", x.odds(0), 9);
    }

    private static StarfishWatch thrown() {
        StarfishWatch x = sky(0, 1, 2, 3);
        x.thrower(0);
        x.thrower(4);
        x.mend(1, 7, 5);
        x.mend(0, 9, 10);
        bytes(x, 0, 2, 1, 0, 0, 3, 1, 1, 0);
        return x;
    }

    private static void eleven() {
        promise = 11;
        StarfishWatch x = thrown();
        int[] at = {10, 10, 15, 13};
        for (int k = 0; k < 4; k++) due("flung(0," + k + ")", x.flung(0, k), at[k]);
        due("all", x.flung(0, -1), 20);
        due("k 4", x.flung(0, 4), NOT);
        due("k 10", x.flung(0, 10), NOT);
        due("k MAX", x.flung(0, MAX), NOT);
        due("k -2", x.flung(0, -2), BAD);
        due("shelf -1", x.flung(-1, 0), BAD);
        due("shelf 6", x.flung(6, 0), BAD);
        due("nothing there", x.flung(1, 0), -11);
        due("nothing there, k 99", x.flung(1, 99), -11);
        due("BAD goes ahead", x.flung(1, -2), BAD);
        x.body(1);
        x.keep(1, 0);
        due("a body", x.flung(1, 0), -12);
        for (int sort = 1; sort < 5; sort++) {
            x.row(1, sort, 4);
            due("sort " + sort, x.flung(1, 0), -12);
        }
        x.row(1, 0, 0);
        due("no throws", x.flung(1, -1), 10);
        due("no throws", x.flung(1, 0), NOT);
        x.mend(0, 9, 999);
        due("999 at most", x.flung(0, 2), 999);
        due("the end is later", x.flung(0, -1), 1009);
        tell(x, "m/99");
        due("odds by the minute held", x.mean(0, 0), 10);
        x.mend(0, 9, 0);
        x.mend(1, 7, 9);
        tell(x, "m");
        due("each by its own minute", x.mean(0, 0), 1); // 0 + 0 + 9 + 3
        due("each by its own minute", x.mean(0, 1), 1);
    }

    private static void planEnds() {
        promise = 11;
        StarfishWatch x = sky(0, 1, 2);
        x.thrower(1);
        bytes(x, 0, 0, 0, 3, 0, 1, 0);
        due("no such star", x.flung(0, 1), NOT);
        bytes(x, 0, 0, 0, 1, 1, 2, 0);
        due("no such thrower", x.flung(0, 1), NOT);
        bytes(x, 0, 0, 0, -1, 0, 2, 0);
        due("a star below 0", x.flung(0, 1), NOT);
        bytes(x, 0, 0, 0, 1, -1, 2, 0);
        due("a thrower below 0", x.flung(0, 1), NOT);
        bytes(x, 0, 0, 0, 1, 0, 0, 0, 2, 0);
        due("came before", x.flung(0, 1), 3);
        due("came before", x.flung(0, 2), NOT);
        bytes(x, 0, 0, 0, 1, 0, 2);
        due("half of two", x.flung(0, 2), NOT);
        due("half of two", x.flung(0, 1), 3);
        up(x, 1);
        due("one that is up", x.flung(0, 1), 3);
        x.pocket(1);
        due("one that is gone", x.flung(0, 1), NOT);
        StarfishWatch y = sky(0, 1, 2, 3, 4, 5, 6, 7, 8, 9);
        y.thrower(9);
        bytes(y, 1, 9, 0, 8, 0, 7, 0, 6, 0, 5, 0, 4, 0, 3, 0, 2, 0, 1, 0, 0, 0, 0, 0, 1, 0);
        due("the tenth", y.flung(1, 9), 27);
        due("an eleventh", y.flung(1, 10), NOT);
        due("all", y.flung(1, -1), 30);
    }

    private static void twelve() {
        promise = 12;
        StarfishWatch x = thrown();
        tell(x, "f=0?8;9");                  // 9/12, 8/12, 9/12, 8/12
        due("above", x.likely(0, 0), 1);
        due("below", x.likely(0, 1), 4);
        tell(x, "f");                        // 4, 0, 4, 0
        due("0 above", x.likely(0, 0), 0);
        due("1 below", x.likely(0, 1), 1);
        x.row(1, 0, 9);
        x.put(1, 0, 99);
        due("no throws", x.likely(1, 0), 1);
        due("no throws", x.likely(1, 1), 1);
        due("part 2", x.likely(0, 2), NO_LONG);
        due("part -1", x.likely(0, -1), NO_LONG);
        due("shelf 6", x.likely(6, 0), NO_LONG);
        due("shelf -1", x.likely(-1, 0), NO_LONG);
        due("nothing", x.likely(2, 0), NO_LONG);
        x.row(2, 2, 4);
        due("ints", x.likely(2, 0), NO_LONG);
        StarfishWatch y = sky(0, 1, 2, 3, 4, 5, 6, 7, 8, 9);
        y.thrower(9);
        bytes(y, 1, 9, 0, 8, 0, 7, 0, 6, 0, 5, 0, 4, 0, 3, 0, 2, 0, 1, 0, 0, 0);
        tell(y, "11");
        due("11 by 12, ten times", y.likely(1, 0), 25937424601L);
        due("11 by 12, ten times", y.likely(1, 1), 61917364224L);
        tell(y, "12");
        due("12 by 12, ten times", y.likely(1, 0), 1);
        due("12 by 12, ten times", y.likely(1, 1), 1);
        up(y, 0, 1, 2);
        tell(y, "6");
        due("up ones, too", y.likely(1, 1), 1024);
    }

    private static void thirteen() {
        promise = 13;
        StarfishWatch x = thrown();
        tell(x, "f=0?8;9");                  // 34 by 12
        due("above", x.mean(0, 0), 17);
        due("below", x.mean(0, 1), 6);
        tell(x, "0");
        due("0 above", x.mean(0, 0), 0);
        due("1 below", x.mean(0, 1), 1);
        tell(x, "3");
        due("a whole one", x.mean(0, 0), 1);
        due("a whole one", x.mean(0, 1), 1);
        x.row(1, 0, 0);
        due("no throws", x.mean(1, 0), 0);
        due("no throws", x.mean(1, 1), 1);
        due("part 2", x.mean(0, 2), NO_LONG);
        due("part -1", x.mean(0, -1), NO_LONG);
        due("shelf 6", x.mean(6, 0), NO_LONG);
        due("nothing", x.mean(2, 0), NO_LONG);
        x.row(2, 4, 4);
        due("booleans", x.mean(2, 0), NO_LONG);
    }

    private static void fourteen() {
        promise = 14;
        StarfishWatch x = sky(0, 1, 2, 3, 4, 5, 6);
        due("no throwers, too many stars", x.dealt(-1), NOT);
        due("no throwers", x.dealt(0), NOT);
        due("no throwers, k -2", x.dealt(-2), BAD);
        x.thrower(1);
        due("seven stars", x.dealt(-1), STATE);
        due("seven stars, no k-th", x.dealt(99), STATE);
        due("seven stars, k -2", x.dealt(-2), BAD);
        up(x, 0);
        x.pocket(4);
        due("one thrower", x.dealt(-1), 15);
        x.thrower(2);
        x.thrower(3);
        x.mend(0, 7, 4);
        x.mend(1, 7, 9);
        x.mend(2, 7, 2);                      // five stars: 1, 2, 3, 5, 6
        due("minutes", x.dealt(-1), 8);       // two, none, four
        int[] by = {0, 0, 2, 2, 2};
        for (int k = 0; k < 5; k++) due("dealt(" + k + ")", x.dealt(k), by[k]);
        due("k 5", x.dealt(5), NOT);
        due("k MAX", x.dealt(MAX), NOT);
        due("k -2", x.dealt(-2), BAD);
        due("k MIN", x.dealt(MIN), BAD);
        up(x, 1, 2, 3, 5, 6);
        due("nobody waits", x.dealt(-1), 0);
        due("nobody waits", x.dealt(0), NOT);
        x.mend(4, 5, 0);
        due("just one", x.dealt(-1), 2);
        due("just one", x.dealt(0), 2);
        x.mend(0, 7, 2);
        due("of like ones the first", x.dealt(0), 0);
        StarfishWatch y = sky(0, 1, 2, 3, 4, 5);
        y.thrower(1);
        y.mend(0, 7, 9);
        due("one slow one", y.dealt(-1), 54);
        y.thrower(1);
        y.mend(1, 7, 9);
        due("two slow ones", y.dealt(-1), 27);
        due("two slow ones", y.dealt(2), 0);
        due("two slow ones", y.dealt(3), 1);
    }

    private static void fifteen() {
        promise = 15;
        StarfishWatch x = sky(0, 1);
        due("not up", x.drops(0), NOT);
        up(x, 0);
        due("drops", x.drops(0), 495);
        x.mend(0, 2, 9);
        x.mend(0, 3, 2);
        x.mend(0, 1, 8);
        due("drops", x.drops(0), 501);
        x.mend(0, 10, 999);
        x.mend(0, 3, 9);
        x.mend(0, 1, 1);
        due("the latest", x.drops(0), 1034);
        x.mend(0, 10, 3);
        x.mend(0, 2, 0);
        x.mend(0, 3, 0);
        x.mend(0, 1, 9);
        due("0 at least", x.drops(0), 0);
        due("not up", x.drops(1), NOT);
        for (int s : new int[] {-1, 2, MIN, MAX}) due("drops(" + s + ")", x.drops(s), BAD);
    }

    private static void sixteen() {
        promise = 16;
        StarfishWatch x = sky(0, 1, 2, 3);
        due("none up", x.upBy(-1), NOT);
        due("none up", x.upBy(0), 0);
        up(x, 1, 2, 3);
        due("of like ones the least", x.upBy(-1), 1);
        x.mend(2, 1, 6);
        due("the first", x.upBy(-1), 2);
        x.mend(0, 1, 9);
        due("not one that is not up", x.upBy(-1), 2);
        due("upBy(493)", x.upBy(493), 3);
        due("upBy(494)", x.upBy(494), 2);
        due("upBy(495)", x.upBy(495), 0);
        due("upBy(1999)", x.upBy(1999), 0);
        for (int m : new int[] {-2, 2000, MIN, MAX}) due("upBy(" + m + ")", x.upBy(m), BAD);
        x.mend(0, 9, 999);
        due("whatever minute it is now", x.upBy(0), 3);
    }

    private static void seventeen() {
        promise = 17;
        StarfishWatch x = sky(7, 8, 21);
        due("lies(0)", x.lies(0), 2);     // 21 + 5 by 24
        due("lies(1)", x.lies(1), 5);     // 0 + 5
        due("lies(2)", x.lies(2), 20);    // 15 + 5
        x.mend(2, 2, 9);
        due("24 is 0", x.lies(2), 0);
        x.mend(2, 2, 8);
        due("23", x.lies(2), 23);
        for (int s : new int[] {-1, 3, MIN, MAX}) due("lies(" + s + ")", x.lies(s), BAD);
    }

    private static void eighteen() {
        promise = 18;
        StarfishWatch x = sky(0, 2, 4, 7);
        x.mend(0, 2, 0);    // on 0, bright 5
        x.mend(1, 2, 0);    // on 6, bright 3
        x.mend(2, 2, 0);    // on 12, bright 5
        x.mend(3, 2, 2);    // on 23, bright 9
        x.mend(1, 1, 3);
        x.mend(3, 1, 9);
        due("none up", x.walk(6, 40, 0), 0);
        due("none up", x.walk(6, 40, 1), 0);
        up(x, 0, 1, 2);
        due("where he stands", x.walk(6, 0, 0), 3);
        due("where he stands", x.walk(6, 5, 0), 3);
        due("not left at all", x.walk(6, 5, 1), 0);
        due("either end", x.walk(6, 6, 0), 8);
        due("of like ones the least left", x.walk(6, 6, 1), 0);
        due("not both ends", x.walk(6, 17, 0), 8);
        due("both ends", x.walk(6, 18, 0), 13);
        due("both ends", x.walk(6, 18, 1), 6);
        due("left first", x.walk(2, 13, 0), 8);
        due("left first", x.walk(2, 14, 0), 13);
        due("left first", x.walk(2, 14, 1), 2);
        due("left first, not far enough", x.walk(2, 13, 1), 0);
        due("right first", x.walk(10, 13, 0), 8);
        due("right first", x.walk(10, 14, 0), 13);
        due("right first", x.walk(10, 14, 1), 10);
        x.mend(0, 4, 0);
        due("just as far as the star", x.walk(8, 3, 1), 2);
        up(x, 0, 3);
        due("the ends do not meet", x.walk(0, 12, 0), 13);
        due("the last place", x.walk(23, 0, 0), 9);
        due("all", x.walk(23, 23, 0), 22);
        due("all", x.walk(23, 23, 1), 23);
        due("all but the first", x.walk(23, 22, 1), 17);
        due("all", x.walk(0, 40, 0), 22);
        x.mend(1, 0, 10);
        due("where it lies counts, not its row", x.walk(6, 0, 0), 3);
        due("place -1", x.walk(-1, 0, 0), BAD);
        due("place 24", x.walk(24, 0, 0), BAD);
        due("t -1", x.walk(0, -1, 0), BAD);
        due("t 41", x.walk(0, 41, 0), BAD);
        due("what 2", x.walk(0, 0, 2), BAD);
        due("what -1", x.walk(0, 0, -1), BAD);
        due("place MAX", x.walk(MAX, 40, 0), BAD);
    }

    private static void nineteen() {
        promise = 19;
        StarfishWatch x = sky(0, 1, 2);
        x.ship(1);
        x.ship(6);
        x.ship(512);
        due("none up", x.steer(), 0);
        up(x, 2);
        due("one up", x.steer(), 2);
        up(x, 0);
        due("two up", x.steer(), 3);
        x.pocket(2);
        due("one in a pocket", x.steer(), 1);
        due("of none", fresh().steer(), 0);
    }

    private static void twenty() {
        promise = 20;
        StarfishWatch x = sky(0, 1, 2, 3);
        for (int what = 0; what < 4; what++) due("no ships", x.fewest(what), 0);
        x.ship(3);
        x.ship(6);
        due("how many", x.fewest(0), 1);
        due("which", x.fewest(1), 2);
        due("safe, how many", x.fewest(2), 3);
        due("safe, which", x.fewest(3), 7);
        x.mend(0, 8, 9);                      // 0 or 3, and 1 or 2
        due("how many", x.fewest(0), 2);
        due("of like ones the least", x.fewest(1), 3);
        due("safe", x.fewest(2), 4);
        due("safe", x.fewest(3), 15);
        up(x, 3);
        due("whether up or not", x.fewest(1), 3);
        x.pocket(0);
        due("not one that is gone", x.fewest(1), 10);
        due("safe", x.fewest(2), NOT);
        due("safe", x.fewest(3), NOT);
        x.ship(512);
        due("none", x.fewest(0), NOT);
        due("none", x.fewest(1), NOT);
        due("what 4", x.fewest(4), BAD);
        due("what -1", x.fewest(-1), BAD);
        StarfishWatch y = sky(0, 1, 2, 3);
        y.ship(12);
        y.ship(7);
        y.ship(11);
        due("fewest goes ahead of least", y.fewest(1), 5);
        due("safe", y.fewest(3), 13);
        StarfishWatch z = sky(0, 1, 2, 3, 4, 5, 6, 7, 8, 9);
        z.ship(1023);
        z.ship(1 << 9);
        due("the last star", z.fewest(1), 512);
    }

    private static void twentyOne() {
        promise = 21;
        StarfishWatch x = sky(0, 1, 2);
        x.ship(3);
        x.ship(6);
        up(x, 0, 1, 2);
        bytes(x, 0, 0, 0, 1, 1);              // 0 and 1 wrong, 2 not
        due("sets", x.home(0, 0), 1);
        due("which", x.home(0, 1), 3);
        bytes(x, 0, 1, 1);
        due("sets", x.home(0, 0), 6);
        due("none wrong", x.home(0, 1), 0);
        bytes(x, 0, 1, 0);
        due("sets", x.home(0, 0), 2);
        due("the fewest", x.home(0, 1), 6);
        bytes(x, 0, 0, 1, 0, 0);
        due("both cannot be", x.home(0, 0), 0);
        due("both cannot be", x.home(0, 1), NOT);
        bytes(x, 0, 1, 1, 2, 0, 0, 0);
        due("no such ship ends it", x.home(0, 0), 6);
        bytes(x, 0, 1, 1, 0, 2, 0, 0);
        due("neither 0 nor 1 ends it", x.home(0, 0), 6);
        bytes(x, 0, 1, 1, 0, -1, 0, 0);
        due("-1 ends it", x.home(0, 0), 6);
        bytes(x, 0, 1, 1, 0);
        due("half of two", x.home(0, 0), 6);
        x.mend(2, 4, 0);
        bytes(x, 0, 1, 1);
        due("of those up", x.home(0, 0), 2);
        x.row(0, 0, 0);
        due("nobody", x.home(0, 0), 4);
        due("nobody", x.home(0, 1), 0);
        int[] twelve = new int[26];
        for (int i = 0; i < 24; i += 2) twelve[i + 1] = 1;
        bytes(x, 0, twelve);
        due("twelve alike", x.home(0, 0), 3);
        twelve[25] = 0;
        due("a thirteenth does not count", x.home(0, 0), 3);
        x.put(0, 23, 0);
        due("the twelfth counts", x.home(0, 0), 0);
        due("what 2", x.home(0, 2), BAD);
        due("what -1", x.home(0, -1), BAD);
        due("shelf 6", x.home(6, 0), BAD);
        due("shelf -1", x.home(-1, 0), BAD);
        due("nothing", x.home(1, 0), -11);
        due("nothing, what 2", x.home(1, 2), BAD);
        x.row(1, 3, 4);
        due("longs", x.home(1, 0), -12);
        x.body(0);
        x.keep(1, 0);
        due("a body", x.home(1, 1), -12);
        StarfishWatch y = sky(0, 1, 2, 3);
        y.ship(1 | 8);
        y.ship(2 | 4);
        y.ship(6);
        up(y, 0, 1, 2, 3);
        bytes(y, 0, 1, 1, 0, 0);
        due("the fewest", y.home(0, 1), 9);
    }

    private static void twentyTwo() {
        promise = 22;
        StarfishWatch x = sky(0, 1, 8, 47);
        bytes(x, 0, 9);
        due("one cell", x.pattern(0, 0), 4);
        due("the first: to cell 0", x.pattern(0, 1), 15 * (-1 + 5) - 1 + 7);
        bytes(x, 0, 20, 21);
        due("two cells", x.pattern(0, 0), 1);
        due("the first: to 0 and 1", x.pattern(0, 1), 15 * (-2 + 5) - 4 + 7);
        due("mirrored", x.pattern(0, 2), 1);
        due("mirrored: 3 and 2 to 1 and 0", x.pattern(0, 3), 15 * (-2 + 5) - 2 + 7);
        bytes(x, 0, 0, 1, 8);
        due("as it is", x.pattern(0, 0), 1);
        due("as it is", x.pattern(0, 1), 82);
        due("mirrored", x.pattern(0, 2), 0);
        due("mirrored", x.pattern(0, 3), NOT);
        bytes(x, 0, 47);
        due("all the way", x.pattern(0, 1), 0);
        bytes(x, 0, 0);
        due("all the way", x.pattern(0, 0), 4);
        due("the first by Y, then by X", x.pattern(0, 1), 82);
        bytes(x, 0, 7, 8);
        due("a row's end is no neighbour", x.pattern(0, 0), 0);
        x.star(7);
        due("both as they are", x.pattern(0, 0), 1);
        up(x, 0);
        x.pocket(1);
        bytes(x, 0, 0, 1, 8);
        due("up or not, gone or not", x.pattern(0, 0), 1);
        bytes(x, 0, 0, 48, 30);
        due("no cell ends it", x.pattern(0, 0), 5);
        bytes(x, 0, 0, -1, 30);
        due("no cell ends it", x.pattern(0, 0), 5);
        bytes(x, 0, -5);
        due("without cells", x.pattern(0, 0), 165);
        due("without cells", x.pattern(0, 1), 0);
        due("without cells", x.pattern(0, 2), 165);
        bytes(x, 0, 0, 0, 0, 0, 0, 0, 0, 0, 30);
        due("8 at most", x.pattern(0, 0), 5);
        bytes(x, 0, 0, 0, 0, 0, 0, 0, 0, 30);
        due("the eighth counts", x.pattern(0, 0), 0);
        due("what 4", x.pattern(0, 4), BAD);
        due("what -1", x.pattern(0, -1), BAD);
        due("shelf 6", x.pattern(6, 0), BAD);
        due("nothing", x.pattern(1, 0), -11);
        x.row(1, 4, 3);
        due("booleans", x.pattern(1, 0), -12);
        StarfishWatch y = sky(16, 24);
        bytes(y, 0, 1);
        due("by Y first", y.pattern(0, 1), 15 * (2 + 5) - 1 + 7);
    }

    private static void twentyThree() {
        promise = 23;
        StarfishWatch x = sky(0, 1, 2);
        x.ship(1);
        x.ship(6);
        x.ship(4);
        due("one throw", x.byTurns(1, 0), 2);
        due("the star that serves two", x.byTurns(1, 1), 2);
        due("the map takes it", x.byTurns(2, 0), 0);
        due("nothing first", x.byTurns(2, 1), 10);
        due("three", x.byTurns(3, 0), 2);
        due("three", x.byTurns(3, 1), 10);
        due("four", x.byTurns(4, 0), 0);
        up(x, 0, 2);
        due("all steer", x.byTurns(1, 0), 3);
        due("nothing first", x.byTurns(1, 1), 10);
        due("then the map takes 2", x.byTurns(2, 0), 2);
        due("so he puts up 1", x.byTurns(2, 1), 1);
        x.pocket(1);
        due("not one that is gone", x.byTurns(2, 0), 1);
        due("not one that is gone", x.byTurns(2, 1), 10);
        due("what it takes comes up again", x.byTurns(3, 0), 3);
        x.mend(2, 5, 1);
        due("a gone one that is up does not", x.byTurns(3, 0), 1);
        due("n 0", x.byTurns(0, 0), BAD);
        due("n 5", x.byTurns(5, 0), BAD);
        due("what 2", x.byTurns(1, 2), BAD);
        due("what -1", x.byTurns(1, -1), BAD);
        StarfishWatch y = sky(0, 1);
        y.ship(3);
        due("of like ones the least", y.byTurns(1, 1), 0);
        due("nothing changed", y.count(1), 0);
    }

    private static void twentyFour() {
        promise = 24;
        StarfishWatch x = sky(0, 1, 2);
        x.thrower(0);
        x.ship(1);
        x.ship(3);
        bytes(x, 0, 0, 0);
        int z = 5, sticks = 0;
        for (int i = 0; i < 30; i++) {
            z = z * 1103515245 + 12345;
            if ((z >>> 8) % 12 < 6) sticks++;
        }
        due("ships", x.drawn(5, 0, 30, -1), 2 * sticks);
        due("the star", x.drawn(5, 0, 30, 0), sticks);
        due("another star", x.drawn(5, 0, 30, 2), 0);
        z = 5 * 1103515245 + 12345;
        due("the first night", x.drawn(5, 0, 1, 0), (z >>> 8) % 12 < 6 ? 1 : 0);
        due("the seed stays", x.of(0, 11), 1);
        due("no one is up behind it", x.count(1), 0);
        tell(x, "0");
        due("nobody sticks", x.drawn(5, 0, 30, -1), 0);
        up(x, 1);
        due("one that is up stays so", x.drawn(5, 0, 30, -1), 30);
        due("one that is up stays so", x.drawn(5, 0, 7, 1), 7);
        bytes(x, 0, 1, 0);
        due("though thrown", x.drawn(5, 0, 7, 1), 7);
        tell(x, "12");
        due("each night from now", x.drawn(-9, 0, 7, 0), 0);
        tell(x, "m");
        bytes(x, 0, 1, 0, 2, 0, 0, 0);
        x.mend(0, 9, 6);
        due("by each one's own minute", x.drawn(1, 0, 30, 0), 30);
        due("seed MIN", x.drawn(MIN, 0, 1, 0), 1);
        due("n 0", x.drawn(1, 0, 0, -1), BAD);
        due("n 31", x.drawn(1, 0, 31, -1), BAD);
        due("star -2", x.drawn(1, 0, 1, -2), BAD);
        due("star 3", x.drawn(1, 0, 1, 3), BAD);
        due("shelf 6", x.drawn(1, 6, 1, -1), BAD);
        due("shelf -1", x.drawn(1, -1, 1, -1), BAD);
        due("nothing", x.drawn(1, 1, 1, -1), -11);
        due("nothing, n 0", x.drawn(1, 1, 0, -1), BAD);
        x.row(1, 1, 2);
        due("shorts", x.drawn(1, 1, 1, -1), -12);
    }

    private static void twentyFive() {
        promise = 25;
        StarfishWatch x = sky(0, 1, 2);
        x.thrower(0);
        x.thrower(1);
        x.mend(1, 7, 9);
        tell(x, "f=1?12;0");
        due("never sticks", x.fling(0), 0);
        due("seed", x.of(0, 11), 1103527590);
        due("minute", x.of(0, 9), 3);
        due("not up", x.of(0, 4), 0);
        due("sticks", x.fling(1), 1);
        due("seed", x.of(0, 11), 1103527590 * 1103515245 + 12345);
        due("minute", x.of(0, 9), 12);
        due("up", x.of(0, 4), 1);
        due("up already", x.fling(1), STATE);
        x.pocket(1);
        due("gone", x.fling(11), STATE);
        due("refused ones change nothing", x.of(0, 9), 12);
        for (int st : new int[] {-1, 2, 30, 31, MIN, MAX}) due("fling(" + st + ")", x.fling(st), BAD);
        due("throws", x.led(0), 2);
        x.mend(0, 9, 995);
        tell(x, "m=995");
        x.mend(0, 11, 1);
        int z = 1103527590;
        due("by the minute in which it begins", x.fling(21), (z >>> 8) % 12 < 1 ? 1 : 0);
        due("999 at most", x.of(0, 9), 999);
        StarfishWatch y = sky(0, 1);
        y.thrower(0);
        up(y, 0);
        y.mend(0, 10, 0);
        y.mend(0, 9, 990);
        y.fling(10);
        due("nothing drops by it", y.of(0, 4), 1);
        due("changes are none", y.count(3), 3);
    }

    private static void twentySix() {
        promise = 26;
        StarfishWatch x = sky(0, 1, 2);
        up(x, 0, 1);
        x.mend(1, 3, 6);
        for (int m : new int[] {0, -1, 1000, MIN, MAX}) due("pass(" + m + ")", x.pass(m), BAD);
        due("pass(494)", x.pass(494), 0);
        due("in that minute it drops", x.pass(1), 1);
        due("not up", x.of(0, 4), 0);
        due("still up", x.of(1, 4), 1);
        due("minute", x.of(0, 9), 495);
        due("once", x.pass(1), 1);
        due("none left", x.pass(999), 0);
        due("999 at most", x.of(0, 9), 999);
        due("dropped", x.led(2), 2);
        due("minutes", x.led(4), 494 + 1 + 1 + 999);
        x.mend(0, 10, 999);
        up(x, 0);
        due("later than the last minute", x.pass(999), 0);
        x.mend(0, 10, 984);
        due("in the last minute", x.pass(1), 1);
        due("minutes", x.led(4), 494 + 1 + 1 + 999 + 999 + 1);
        up(x, 2);
        x.mend(0, 9, 0);
        x.mend(0, 10, 0);
        due("overdue ones, too", x.pass(16), 1);
    }

    private static void twentySeven() {
        promise = 27;
        StarfishWatch x = sky(0, 1);
        up(x, 1);
        due("not up", x.pocket(0), 0);
        due("up", x.pocket(1), 1);
        due("not up then", x.of(1, 4), 0);
        due("gone", x.of(1, 5), 1);
        due("again", x.pocket(1), STATE);
        due("no such", x.pocket(2), BAD);
        due("no such", x.pocket(-1), BAD);
        due("led", x.led(3), 2);
        x.mend(1, 5, 0);
        due("back again", x.pocket(1), 0);
        due("led", x.led(3), 3);
        due("changes", x.count(3), 2);
    }

    private static void twentyEight() {
        promise = 28;
        StarfishWatch x = sky(0, 1, 2);
        x.thrower(9);
        tell(x, "12");
        x.fling(0);
        x.fling(10);
        tell(x, "0");
        x.fling(20);
        x.pass(400);
        x.pass(200);
        x.pocket(2);
        int[] led = {3, 2, 2, 1, 609};
        for (int i = 0; i < 5; i++) due("led(" + i + ")", x.led(i), led[i]);
        due("led(5)", x.led(5), BAD);
        due("led(-1)", x.led(-1), BAD);
        x.mend(0, 4, 1);
        x.mend(1, 5, 1);
        x.undo();
        for (int i = 0; i < 5; i++) due("mending is not led", x.led(i), led[i]);
        x.mend(0, 9, 999);
        x.fling(20);
        due("STATE is not led", x.led(0), 3);
        x.fling(10);
        due("minutes as told", x.led(4), 612);
    }

    private static void twentyNine() {
        promise = 29;
        StarfishWatch x = sky(0, 1);
        x.thrower(9);
        tell(x, "12");
        due("none yet", x.back(), STATE);
        x.fling(0);
        due("image", x.image(), 1);
        x.fling(10);
        x.pass(600);
        x.pocket(1);
        x.mend(0, 11, 77);
        x.mend(0, 10, 100);
        x.mend(0, 1, 9);
        x.star(2);
        up(x, 2);
        promise = 30;
        due("back", x.back(), 1);
        due("up", x.of(0, 4), 1);
        due("not up", x.of(1, 4), 0);
        due("not gone", x.of(1, 5), 0);
        due("one that came since", x.of(2, 4), 1);
        due("minute", x.of(0, 9), 3);
        due("seed", x.of(0, 11), 1103527590);
        due("dawn is not kept", x.of(0, 10), 100);
        due("bright is not kept", x.of(0, 1), 9);
        int[] led = {1, 1, 0, 0, 3};
        for (int i = 0; i < 5; i++) due("led(" + i + ")", x.led(i), led[i]);
        due("changes stay", x.count(3), 4);
        x.pocket(0);
        x.fling(10);
        due("again", x.back(), 1);
        due("again", x.of(0, 5), 0);
        promise = 29;
        x.fling(10);
        due("a later one", x.image(), 2);
        x.pass(999);
        promise = 30;
        due("a later one", x.back(), 2);
        due("a later one", x.of(1, 4), 1);
        x.mend(2, 5, 1);
        due("dawn", x.mend(0, 10, 480), 100);
        promise = 32;
        due("undo", x.undo(), 5);
        x.back();
        due("deeds are no changes", x.redo(), 0);
        due("deeds are no changes", x.of(0, 10), 480);
    }

    private static void thirtyOne() {
        promise = 31;
        StarfishWatch x = sky(10, 11);
        x.thrower(4);
        x.ship(1);
        due("none", x.undo(), STATE);
        promise = 32;
        due("none", x.redo(), STATE);
        promise = 31;
        int[] to = {20, 9, 9, 9, 1, 1, 9, 9, 99, 99, 99, 99};
        int[] was = {10, 5, 5, 5, 0, 0, 4, 3, 1, 0, 480, 1};
        for (int what = 0; what < 12; what++) x.mend(0, what, to[what]);
        x.mend(0, 1, 9);
        due("the same number is none", x.count(3), 12);
        for (int what = 11; what >= 0; what--) {
            due("undo " + what, x.undo(), what);
            due("it was", x.of(0, what), was[what]);
        }
        due("none", x.undo(), STATE);
        promise = 32;
        for (int what = 0; what < 12; what++) {
            due("redo " + what, x.redo(), 11 - what);
            due("it is", x.of(0, what), to[what]);
        }
        due("none", x.redo(), STATE);
        x.undo();
        x.undo();
        x.mend(0, 11, 1);
        due("the same number comes not behind", x.redo(), 1);
        x.undo();
        due("BAD comes not behind", x.mend(0, 11, 5) + x.mend(0, 1, 77), 1 + VOID);
        due("another came behind", x.redo(), STATE);
        due("eleven", x.count(3), 11);
        cells();
        forty40();
    }

    private static void cells() {
        promise = 31;
        StarfishWatch x = sky(10);
        x.mend(0, 0, 20);
        x.star(10);
        due("undo", x.undo(), 0);
        due("the cell is taken: it stays", x.of(0, 0), 20);
        x.mend(1, 0, 30);
        due("another came behind", x.redo(), STATE);
        x.mend(0, 0, 10);
        due("undo", x.undo(), 1);
        due("back", x.of(0, 0), 20);
        x.star(10);
        promise = 32;
        due("redo", x.redo(), 0);
        due("the cell is taken: it stays", x.of(0, 0), 20);
        due("may still be undone", x.count(3), 2);
        StarfishWatch y = sky(1);
        y.thrower(0);
        tell(y, "12");
        y.mend(0, 1, 7);
        y.undo();
        y.fling(0);
        y.star(2);
        y.thrower(2);
        y.ship(2);
        due("no change came behind", y.redo(), 0);
        due("redone", y.of(0, 1), 7);
        promise = 31;
        y.mend(0, 4, 0);
        y.mend(0, 9, 50);
        y.pass(7);
        due("undo", y.undo(), 2);
        due("what it was before the change", y.of(0, 9), 3);
    }

    private static void forty40() {
        promise = 31;
        StarfishWatch x = fresh();
        for (int i = 1; i <= 45; i++) x.mend(0, 9, i);
        due("40 at most", x.count(3), 40);
        for (int i = 39; i >= 0; i--) due("undo", x.undo(), i);
        due("none", x.undo(), STATE);
        due("the oldest are forgotten", x.of(0, 9), 5);
        promise = 32;
        for (int i = 39; i >= 0; i--) due("redo", x.redo(), i);
        due("none", x.redo(), STATE);
        due("the latest", x.of(0, 9), 45);
        mixed();
    }

    /** Changes of unlike kinds, of whom the oldest three are forgotten. */
    private static void mixed() {
        StarfishWatch x = sky(0, 1, 2);
        int[][] all = new int[43][];
        for (int i = 0; i < 43; i++) {
            int what = new int[] {1, 9, 2, 10, 0, 11, 3}[i % 7], number = what < 4 ? i % 3 : 0;
            int v = what == 0 ? 5 + i : what < 4 ? (x.of(number, what) + 3) % 9 + 1 : 100 + i;
            all[i] = new int[] {number, what, x.of(number, what), v};
            due("mend", x.mend(number, what, v), all[i][2]);
        }
        promise = 31;
        for (int i = 42; i >= 3; i--) {
            due("undo", x.undo(), i - 3);
            due("it was", x.of(all[i][0], all[i][1]), all[i][2]);
        }
        due("none", x.undo(), STATE);
        for (int i = 0; i < 3; i++) due("forgotten", x.of(all[i][0], all[i][1]), all[i][3]);
        promise = 32;
        for (int i = 3; i < 43; i++) {
            due("redo", x.redo(), 42 - i);
            due("it is", x.of(all[i][0], all[i][1]), all[i][3]);
        }
    }

    private static void thirtyThree() {
        promise = 33;
        StarfishWatch x = fresh();
        due("body(-1)", x.body(-1), BAD);
        due("body(8)", x.body(8), BAD);
        for (int i = 0; i < 50; i++) due("body", x.body(i % 8), i);
        due("one more", x.body(0), FULL);
        due("one more, wrong", x.body(8), BAD);
        due("count", x.count(4), 50);
        due("the last's number", x.act(49, 2, 0), 49);
        due("act of none", x.act(50, 2, 0), 0);
    }

    /** What acts 0 to 3 of each kind give with x 5, its number its kind. */
    private static void thirtyFour() {
        promise = 34;
        StarfishWatch x = fresh();
        for (int k = 0; k < 8; k++) x.body(k);
        int[][] due = {
            {5, 10, 5, 10 - (1 ^ 0)},
            {9, 18, 4, 18 - (1 ^ 1)},
            {7, -14, 7, -14 - (1 ^ 2)},
            {8, -18, 18, -18 - 3 * (1 ^ 3)},
            {12, 24, 1, 24 - (1 ^ 4) ^ 5},
            {10, -22, -7, 0},
            {22, 44, 3, 44 - (1 ^ 6)},
            {23, 51, 2, 51 - (1 ^ 7)}};
        due[5][3] = -22 - (3 * (1 ^ 5) - 7) + 1;
        for (int k = 0; k < 8; k++) {
            for (int a = 0; a < 4; a++) due("act(" + k + "," + a + ",5)", x.act(k, a, 5), due[k][a]);
        }
        due("wraps", x.act(7, 0, MAX), (MAX + 7) * 2 - 1);
        due("wraps", x.act(0, 1, MIN), 0);
        due("x MAX", x.act(3, 1, MAX), -(MIN + 3) * 2);
        due("no such act", x.act(0, 4, 5), 0);
        due("no such act", x.act(0, -1, 5), 0);
        due("no such body", x.act(8, 0, 5), 0);
        due("no such body", x.act(-1, 0, 5), 0);
        due("no trace then", x.count(5), 0);
        due("no trace then", x.trace(0), BAD);
    }

    private static void traced(StarfishWatch x, int body, int act, int... numbers) {
        x.act(body, act, 5);
        due("count(5)", x.count(5), numbers.length);
        for (int i = 0; i < numbers.length; i++) due("trace of " + body + "," + act, x.trace(i), numbers[i]);
        due("no more", x.trace(numbers.length), BAD);
    }

    private static void thirtyFive() {
        promise = 35;
        StarfishWatch x = fresh();
        due("none yet", x.trace(0), BAD);
        for (int k = 0; k < 8; k++) x.body(k);
        traced(x, 0, 0, 1);
        traced(x, 0, 1, 10, 1);
        traced(x, 0, 2, 11);
        traced(x, 0, 3, 2, 10, 1, 11);
        traced(x, 1, 3, 2, 10, 20, 1, 11);
        traced(x, 2, 3, 2, 30, 10, 1, 11);
        traced(x, 3, 3, 2, 41, 30, 10, 1, 40, 11);
        traced(x, 4, 3, 50, 2, 10, 20, 1, 11);
        traced(x, 5, 3, 61, 2, 41, 30, 10, 1, 60, 40, 11, 1);
        traced(x, 6, 3, 2, 10, 70, 1, 11);
        traced(x, 7, 3, 2, 80, 10, 81, 70, 1, 11, 11);
        due("trace(-1)", x.trace(-1), BAD);
        due("trace(24)", x.trace(24), BAD);
        due("trace(MAX)", x.trace(MAX), BAD);
        x.act(8, 0, 0);
        due("none then", x.trace(0), BAD);
    }

    private static void thirtySix() {
        promise = 36;
        StarfishWatch x = fresh();
        x.body(2);
        due("a body", x.keep(0, 0), 1);
        due("taken", x.taken(0, 2), 2);
        due("no such body", x.keep(0, 1), BAD);
        due("body -2", x.keep(0, -2), BAD);
        due("shelf 6", x.keep(6, 0), BAD);
        due("shelf -1", x.keep(-1, -1), BAD);
        due("it is still there", x.taken(0, 2), 2);
        due("nothing", x.keep(0, -1), 1);
        due("nothing", x.taken(0, 2), -11);
        due("the last shelf", x.keep(5, 0), 1);
        x.row(5, 0, 3);
        due("over a row", x.keep(5, 0), 1);
        due("over a row", x.put(5, 0, 1), -12);
        due("the same on two", x.keep(4, 0), 1);
    }

    private static void thirtySeven() {
        promise = 37;
        StarfishWatch x = fresh();
        for (int sort = 0; sort < 5; sort++) due("row", x.row(sort, sort, 60), 1);
        due("a row of none", x.row(5, 0, 0), 1);
        due("a row of none", x.put(5, 0, 1), -13);
        due("61", x.row(0, 0, 61), BAD);
        due("below 0", x.row(0, 0, -1), -14);
        due("MIN", x.row(0, 0, MIN), -14);
        due("MAX", x.row(0, 0, MAX), BAD);
        due("sort 5", x.row(0, 5, 1), BAD);
        due("sort -1", x.row(0, -1, 1), BAD);
        due("sort 5, below 0", x.row(0, 5, -1), BAD);
        due("shelf 6", x.row(6, 0, 1), BAD);
        due("shelf -1, below 0", x.row(-1, 0, -1), BAD);
        due("the old one is there", x.put(0, 59, 7), 1);
        due("again", x.row(0, 0, 60), 1);
        due("0 at first", x.element(0, 59), 0);
        due("shorter", x.row(0, 3, 2), 1);
        due("shorter", x.element(0, 2), NO_LONG);
    }

    private static void thirtyEight() {
        promise = 38;
        StarfishWatch x = fresh();
        for (int sort = 0; sort < 5; sort++) x.row(sort, sort, 3);
        long[] all = {0x1234567890ABCDEFL, 128, -129, 32768, 1L << 31, 1L << 32, 256, 0, 1, -1, Long.MIN_VALUE, Long.MAX_VALUE};
        for (long v : all) {
            long[] kept = {(byte) v, (short) v, (int) v, v, v != 0 ? 1 : 0};
            for (int sort = 0; sort < 5; sort++) {
                due("put", x.put(sort, 1, v), 1);
                due("element of sort " + sort, x.element(sort, 1), kept[sort]);
                due("its neighbours", x.element(sort, 0), 0);
                due("its neighbours", x.element(sort, 2), 0);
            }
        }
        due("place 3", x.put(0, 3, 1), -13);
        due("place -1", x.put(0, -1, 1), -13);
        due("place MAX", x.put(0, MAX, 1), -13);
        due("nothing", x.put(5, 0, 1), -11);
        x.body(0);
        x.keep(5, 0);
        due("a body", x.put(5, 0, 1), -12);
        due("a body, place -1", x.put(5, -1, 1), -12);
        due("shelf 6", x.put(6, 0, 1), BAD);
        due("shelf -1", x.put(-1, 0, 1), BAD);
    }

    private static void thirtyNine() {
        promise = 39;
        StarfishWatch x = fresh();
        x.row(0, 3, 60);
        x.put(0, 59, 5);
        due("element", x.element(0, 59), 5);
        due("element", x.element(0, 60), NO_LONG);
        due("element", x.element(0, -1), NO_LONG);
        due("nothing", x.element(1, 0), NO_LONG);
        x.body(0);
        x.keep(1, 0);
        due("a body", x.element(1, 0), NO_LONG);
        due("shelf 6", x.element(6, 0), NO_LONG);
        due("shelf -1", x.element(-1, 0), NO_LONG);
    }

    private static void forty() {
        promise = 40;
        StarfishWatch x = fresh();
        bytes(x, 0, 1, 2, 3, 4, 5);
        bytes(x, 1, 0, 0, 0);
        due("to another", x.shift(0, 1, 1, 0, 3), 3);
        for (int i = 0; i < 3; i++) due("came", x.element(1, i), i + 2);
        due("up within the same", x.shift(0, 0, 0, 1, 4), 4);
        int[] up = {1, 1, 2, 3, 4};
        for (int i = 0; i < 5; i++) due("as they were before", x.element(0, i), up[i]);
        due("down within the same", x.shift(0, 1, 0, 0, 4), 4);
        int[] down = {1, 2, 3, 4, 4};
        for (int i = 0; i < 5; i++) due("as they were before", x.element(0, i), down[i]);
        due("none at the end", x.shift(0, 5, 1, 3, 0), 0);
        due("none behind the end", x.shift(0, 6, 1, 0, 0), -13);
        due("none behind the other's end", x.shift(0, 0, 1, 4, 0), -13);
        due("too many here", x.shift(0, 4, 1, 0, 2), -13);
        due("too many there", x.shift(0, 0, 1, 1, 3), -13);
        due("n below 0", x.shift(0, 1, 1, 1, -1), -13);
        due("i below 0", x.shift(0, -1, 1, 0, 1), -13);
        due("j below 0", x.shift(0, 0, 1, -1, 1), -13);
        due("far off", x.shift(0, MAX, 1, 0, MAX), -13);
        due("far off", x.shift(0, 1, 1, MAX, MAX), -13);
        due("far off", x.shift(0, MIN, 1, 0, MIN), -13);
        due("shelf 6", x.shift(6, 0, 1, 0, 1), BAD);
        due("other 6", x.shift(0, 0, 6, 0, 1), BAD);
        due("shelf -1", x.shift(-1, 0, 2, 0, 1), BAD);
        due("nothing here", x.shift(2, 0, 0, 0, 1), -11);
        due("nothing there", x.shift(0, 0, 2, 0, 1), -11);
        x.row(3, 1, 3);
        due("unlike", x.shift(0, 0, 3, 0, 1), -12);
        due("unlike, n below 0", x.shift(0, 0, 3, 0, -1), -12);
        x.body(0);
        x.keep(4, 0);
        x.keep(5, 0);
        due("a body here", x.shift(4, 0, 0, 0, 1), -12);
        due("a body there", x.shift(0, 0, 4, 0, 1), -12);
        due("two bodies", x.shift(4, 0, 5, 0, 1), -12);
        due("a body, and nothing", x.shift(4, 0, 2, 0, 1), -11);
        due("nothing, and a body", x.shift(2, 0, 4, 0, 1), -11);
        for (int i = 0; i < 5; i++) due("refused ones change nothing", x.element(0, i), down[i]);
    }

    private static void fortyOne() {
        promise = 41;
        StarfishWatch x = fresh();
        for (int k = 0; k < 8; k++) x.body(k);
        int[] above = {-1, 0, 0, 2, 1, 3, 0, 6};
        for (int kind = 0; kind < 8; kind++) {
            x.keep(0, kind);
            for (int k = 0; k < 8; k++) {
                boolean under = false;
                for (int at = kind; at >= 0; at = above[at]) under |= at == k;
                due("taken " + kind + " for " + k, x.taken(0, k), under ? kind : -12);
            }
        }
        due("k 8", x.taken(0, 8), BAD);
        due("k -1", x.taken(0, -1), BAD);
        due("shelf 6", x.taken(6, 0), BAD);
        due("shelf -1", x.taken(-1, 0), BAD);
        due("nothing", x.taken(1, 0), -11);
        due("nothing, k 8", x.taken(1, 8), BAD);
        x.row(1, 0, 1);
        due("a row", x.taken(1, 0), -12);
    }

    private static void fortyTwo() {
        promise = 42;
        StarfishWatch x = sky(0, 1, 2);
        up(x, 0, 2);
        x.thrower(1);
        x.ship(1);
        x.ship(1);
        x.feed(40);
        x.body(0);
        x.body(7);
        x.act(1, 0, 3);
        int[] due = {3, 2, 1, 2, 2, 3, 1, 2};
        for (int i = 0; i < 8; i++) due("count(" + i + ")", x.count(i), due[i]);
        due("count(8)", x.count(8), BAD);
        due("count(-1)", x.count(-1), BAD);
        x.undo();
        due("changes", x.count(3), 1);
        due("up", x.count(1), 1);
        x.law();
        due("the tape", x.count(2), 0);
    }

    /** No call throws, whatever it is told: and what it refuses changes nothing. */
    private static void anything() {
        promise = 1;
        int[] all = {MIN, -2000000000, -1000, -2, -1, 0, 1, 9, 10, 11, 47, 48, 60, 1000, MAX - 2, MAX};
        StarfishWatch x = sky(0, 1);
        x.thrower(3);
        x.ship(2);
        x.row(0, 0, 4);
        for (int a : all) {
            for (int b : all) {
                x.of(a, b); x.flung(a, b); x.likely(a, b); x.mean(a, b); x.home(a, b); x.pattern(a, b);
                x.byTurns(a, b); x.keep(a, b); x.element(a, b); x.taken(a, b);
                for (int c : all) {
                    x.mend(a, b, c); x.stars(a, b, c); x.walk(a, b, c); x.act(a, b, c); x.row(a, b, c);
                    x.put(a, b, c); x.drawn(a, b, c, a); x.shift(a, b, c, a, b); x.shift(0, a, 0, b, c);
                }
            }
            x.star(a); x.thrower(a); x.ship(a); x.feed(a); x.law(); x.odds(a); x.dealt(a); x.drops(a);
            x.upBy(a); x.lies(a); x.fewest(a); x.fling(a); x.pass(a); x.pocket(a); x.led(a); x.body(a);
            x.trace(a); x.count(a); x.undo(); x.redo(); x.image(); x.back();
        }
    }
}
