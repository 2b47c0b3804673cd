/** Boundary cases of promises 1 to 7: stars, throwers, ships, and their numbers. */
public final class StarBoundsTests extends Bounds {
    /** By what of mend(): the least and the greatest number, and the number at first. */
    private static final int[][] RANGE = {{0, 47}, {1, 9}, {0, 9}, {0, 9}, {0, 1}, {0, 1}, {0, 9}, {1, 9}, {1, 1023}, {0, 999}, {0, 999}, {MIN, MAX}};
    private static final int[] MOST = {10, 10, 10, 10, 10, 10, 4, 4, 6, 1, 1, 1};
    private static final String[] NAMES = {"CELL", "BRIGHT", "STICKY", "ARMS", "UP", "GONE", "FLAT", "SPEED", "NEEDS", "MINUTE", "DAWN", "SEED"};

    public static void main(String[] args) {
        constants();
        emptySky();
        star();
        starsHeld();
        starsFromRow();
        starsRowEnds();
        starsRefused();
        thrower();
        ship();
        mendRanges();
        mendHolders();
        mendCells();
        mendAnswers();
        of();
        ofCells();
        asked();
        end();
    }

    private static void constants() {
        sentence(1, "BAD = -1, NOT = -2, FULL = -3, STATE = -5, VOID = -2000000000");
        due("BAD", StarfishWatch.BAD, -1);
        due("NOT", StarfishWatch.NOT, -2);
        due("FULL", StarfishWatch.FULL, -3);
        due("STATE", StarfishWatch.STATE, -5);
        due("VOID", StarfishWatch.VOID, -2000000000);
    }

    private static void emptySky() {
        sentence(1, "An empty sky, nobody");
        StarfishWatch x = after();
        for (int i = 0; i < 8; i++) due("count(" + i + ")", x.count(i), 0);
        for (int c = 0; c < 48; c++) due("of(" + c + ", 12)", x.of(c, 12), NOT);
        for (int what = 0; what < 9; what++) due("of(0, " + what + ")", x.of(0, what), VOID);
        due("steer()", x.steer(), 0);
        due("dealt(-1)", x.dealt(-1), NOT);
        due("upBy(-1)", x.upBy(-1), NOT);
        due("upBy(0)", x.upBy(0), 0);
        for (int what = 0; what < 4; what++) due("fewest", x.fewest(what), 0);
        due("walk", x.walk(0, 0, 0), 0);
        due("byTurns, how many", x.byTurns(4, 0), 0);
        due("byTurns, his first", x.byTurns(4, 1), 10);
        sentence(1, "MINUTE (0 at first), DAWN (480 at first), SEED (1 at first)");
        due("MINUTE", x.of(0, 9), 0);
        due("DAWN", x.of(0, 10), 480);
        due("SEED", x.of(0, 11), 1);
        sentence(1, "LED of nothing");
        for (int i = 0; i < 5; i++) due("led(" + i + ")", x.led(i), 0);
        sentence(1, "no image, no change, no trace, shelves hold nothing at first");
        due("back()", x.back(), STATE);
        due("undo()", x.undo(), STATE);
        due("redo()", x.redo(), STATE);
        due("trace(0)", x.trace(0), BAD);
        for (int s = 0; s < 6; s++) due("taken(" + s + ", 0)", x.taken(s, 0), MISSING);
        due("act(0, 0, 1)", x.act(0, 0, 1), 0);
        sentence(1, "an object shares nothing with another");
        StarfishWatch y = after();
        IN_USE.on(x);
        for (int i = 0; i < 8; i++) due("count(" + i + ") of the other", y.count(i), 0);
        due("shelf 0 of the other", y.taken(0, 0), MISSING);
        due("back() of the other", y.back(), STATE);
        due("dawn of the other", y.of(0, 10), 480);
        y.star(3);
        y.thrower(1);
        due("law of the other", y.odds(0), 6);
    }

    private static void star() {
        sentence(2, "CELLS 0 .. 47");
        due("star(0)", after().star(0), 0);
        due("star(47)", after().star(47), 0);
        for (int c : new int[] {-1, 48, 64, 255, 256, MIN, MAX}) refused("star(" + c + ")", BAD, x -> x.star(c), IN_USE);
        sentence(2, "its number: as they come");
        StarfishWatch y = after();
        for (int i = 0; i < 10; i++) due("star " + i, y.star(47 - i), i);
        for (int i = 0; i < 10; i++) due("of(" + i + ", 0)", y.of(i, 0), 47 - i);
        sentence(2, "BAD (taken, too)");
        for (int c : new int[] {0, 9, 47}) refused("star(" + c + ") that is taken", BAD, x -> x.star(c), cells(0, 9, 47));
        refused("star(9) of one that is GONE", BAD, x -> x.star(9), cells(9), x -> x.pocket(0));
        refused("star(9) of one that moved there", BAD, x -> x.star(9), cells(8), mend(0, 0, 9));
        due("star(8) that was left", after(cells(8), mend(0, 0, 9)).star(8), 1);
        refused("star(47) of a row's star", BAD, x -> x.star(47), plan(0, 47, 1, 1), x -> x.stars(0, 0, 1));
        sentence(2, "FULL: 10");
        due("the tenth", after(cells(0, 1, 2, 3, 4, 5, 6, 7, 8)).star(9), 9);
        refused("the eleventh", FULL, x -> x.star(10), cells(0, 1, 2, 3, 4, 5, 6, 7, 8, 9));
        refused("the eleventh behind more", FULL, x -> x.star(10), IN_USE, FULL_SKY);
        refused("the eleventh, though some are GONE", FULL, x -> x.star(10), cells(0, 1, 2, 3, 4, 5, 6, 7, 8, 9), x -> x.pocket(0));
        sentence(2, "of several the one named first: BAD ahead of FULL");
        for (int c : new int[] {-1, 48, 0, 20}) refused("the eleventh, star(" + c + ")", BAD, x -> x.star(c), IN_USE, FULL_SKY);
    }

    private static void starsHeld() {
        sentence(2, "BRIGHT, STICKY, ARMS 5 at first, UP, GONE 0 at first");
        StarfishWatch x = after(cells(3, 40));
        int[] first = {40, 5, 5, 5, 0, 0};
        for (int what = 0; what < 6; what++) due(NAMES[what], x.of(1, what), first[what]);
        sentence(3, "ARMS 5 at first, UP, GONE 0 at first, of a row's stars, too");
        StarfishWatch y = after(plan(0, 40, 1, 9), z -> z.stars(0, 0, 1));
        int[] told = {40, 1, 9, 5, 0, 0};
        for (int what = 0; what < 6; what++) due(NAMES[what], y.of(0, what), told[what]);
    }

    private static int came(int i, int n, int... row) {
        return after(plan(0, row)).stars(0, i, n);
    }

    private static void starsFromRow() {
        sentence(3, "by threes CELL, BRIGHT, STICKY: n of them");
        int[] ten = new int[33];
        for (int i = 0; i < 11; i++) {
            ten[3 * i] = i;
            ten[3 * i + 1] = 9;
        }
        for (int n = 1; n <= 10; n++) due("n " + n, came(0, n, ten), n);
        StarfishWatch x = after(plan(0, ten));
        x.stars(0, 3, 2);
        due("count(0)", x.count(0), 2);
        due("CELL of 0", x.of(0, 0), 1);
        due("CELL of 1", x.of(1, 0), 2);
        due("BRIGHT", x.of(1, 1), 9);
        due("STICKY", x.of(1, 2), 0);
        sentence(3, "from place i on");
        due("i 0", came(0, 1, 7, 8, 9, 6), 1);
        due("i 1", after(plan(0, 99, 8, 9, 6)).stars(0, 1, 1), 1);
        due("the last three of 60", after(r -> { r.row(0, 0, 60); r.put(0, 58, 1); }).stars(0, 57, 1), 1);
        due("behind the last three of 60", after(r -> { r.row(0, 0, 60); r.put(0, 59, 1); }).stars(0, 58, 1), 0);
        sentence(3, "0 with i below 0");
        for (int i : new int[] {-1, -2, -3, MIN, MIN + 1}) unchanged("stars(0, " + i + ", 1)", 0, y -> y.stars(0, i, 1), IN_USE, plan(0, 1, 1, 1, 2, 1, 1));
        sentence(3, "it ends where one is not as it may be");
        int[][] may = {{0, 1, 0}, {47, 9, 9}, {0, 9, 0}, {47, 1, 9}};
        for (int[] m : may) due("one of " + m[0] + ", " + m[1] + ", " + m[2], came(0, 1, m), 1);
        int[][] not = {{-1, 5, 5}, {48, 5, 5}, {127, 5, 5}, {200, 5, 5}, {5, 0, 5}, {5, 10, 5}, {5, -1, 5}, {5, 5, -1}, {5, 5, 10}, {5, 5, 127}, {5, 5, 128}};
        for (int[] m : not) unchanged("one of " + m[0] + ", " + m[1] + ", " + m[2], 0, y -> y.stars(0, 0, 3), IN_USE, plan(0, m[0], m[1], m[2], 20, 5, 5));
        due("those ahead came", came(0, 4, 1, 1, 1, 2, 1, 1, 3, 0, 1, 4, 1, 1), 2);
        sentence(3, "its CELL taken, too");
        unchanged("taken ahead", 0, y -> y.stars(0, 0, 2), IN_USE, plan(0, 9, 5, 5, 20, 5, 5));
        due("taken by the one ahead", came(0, 3, 1, 1, 1, 1, 2, 2, 3, 3, 3), 1);
        due("taken by one that is GONE", after(cells(4), y -> y.pocket(0), plan(0, 4, 1, 1)).stars(0, 0, 1), 0);
    }

    private static void starsRowEnds() {
        sentence(3, "it ends where the row ends");
        due("a row of none", came(0, 1), 0);
        due("two of two", came(0, 10, 1, 1, 1, 2, 1, 1), 2);
        for (int i : new int[] {6, 7, 60, 61, MAX - 2, MAX - 1, MAX}) unchanged("from " + i + " on", 0, y -> y.stars(0, i, 10), IN_USE, plan(0, 20, 1, 1, 21, 1, 1));
        sentence(3, "within a three, too");
        due("a place missing", came(0, 10, 1, 1, 1, 2, 1), 1);
        due("two places missing", came(0, 10, 1, 1, 1, 2), 1);
        due("one place alone", came(0, 10, 1), 0);
        due("two places alone", came(0, 10, 1, 1), 0);
        unchanged("the rest of a three", 0, y -> y.stars(0, 4, 1), IN_USE, plan(0, 20, 1, 1, 21, 1, 1));
        sentence(3, "it ends where the row is missing");
        unchanged("a SHELF that holds nothing", 0, y -> y.stars(5, 0, 1), IN_USE);
        unchanged("a SHELF that holds nothing, i below 0", 0, y -> y.stars(5, -1, 1), IN_USE);
        unchanged("a SHELF that holds nothing any more", 0, y -> y.stars(0, 0, 1), IN_USE, y -> y.keep(0, -1));
        sentence(3, "or STARS are FULL: those ahead came");
        int[] three = {0, 1, 1, 1, 1, 1, 2, 1, 1};
        due("room for two", after(cells(10, 11, 12, 13, 14, 15, 16, 17), plan(0, three)).stars(0, 0, 3), 2);
        due("room for three", after(cells(10, 11, 12, 13, 14, 15, 16), plan(0, three)).stars(0, 0, 3), 3);
        unchanged("room for none", 0, y -> y.stars(0, 0, 3), IN_USE, FULL_SKY, plan(0, 1, 1, 1, 2, 1, 1));
    }

    private static void starsRefused() {
        Calls row = plan(0, 20, 1, 1, 21, 1, 1);
        sentence(3, "n (1 .. 10), else BAD");
        for (int n : new int[] {0, -1, 11, MIN, MAX}) refused("stars(0, 0, " + n + ")", BAD, x -> x.stars(0, 0, n), IN_USE, row);
        sentence(3, "SHELVES 0 .. 5, else BAD");
        for (int s = 0; s < 6; s++) due("shelf " + s, after(plan(s, 1, 1, 1)).stars(s, 0, 1), 1);
        for (int s : new int[] {-1, 6, MIN, MAX}) refused("stars(" + s + ", 0, 1)", BAD, x -> x.stars(s, 0, 1), IN_USE, row);
        sentence(3, "-12 (no ROW of bytes)");
        for (int sort = 1; sort < 5; sort++) {
            int of = sort;
            Calls other = x -> { x.row(0, of, 6); x.put(0, 0, 1); x.put(0, 1, 1); };
            refused("sort " + sort, UNLIKE, x -> x.stars(0, 0, 1), IN_USE, other);
            refused("sort " + sort + ", i below 0", UNLIKE, x -> x.stars(0, -1, 1), IN_USE, other);
        }
        refused("a BODY", UNLIKE, x -> x.stars(3, 0, 1), IN_USE);
        refused("a BODY, STARS are FULL", UNLIKE, x -> x.stars(3, 0, 1), IN_USE, FULL_SKY);
        sentence(3, "BAD ahead of -12, of missing, and of i below 0");
        refused("n 0 of a BODY", BAD, x -> x.stars(3, 0, 0), IN_USE);
        refused("n 11 of nothing", BAD, x -> x.stars(5, 0, 11), IN_USE);
        refused("n 0, i below 0", BAD, x -> x.stars(0, -1, 0), IN_USE, row);
        refused("shelf 6, i below 0", BAD, x -> x.stars(6, -1, 1), IN_USE, row);
    }

    private static void thrower() {
        sentence(4, "FLAT (0 .. 9)");
        due("thrower(0)", after().thrower(0), 0);
        due("thrower(9)", after().thrower(9), 0);
        for (int f : new int[] {-1, 10, MIN, MAX}) refused("thrower(" + f + ")", BAD, x -> x.thrower(f), IN_USE);
        sentence(4, "the number: as they come; SPEED 3 at first");
        StarfishWatch y = after();
        for (int i = 0; i < 4; i++) due("thrower " + i, y.thrower(9 - i), i);
        for (int i = 0; i < 4; i++) {
            due("FLAT of " + i, y.of(i, 6), 9 - i);
            due("SPEED of " + i, y.of(i, 7), 3);
        }
        sentence(4, "FULL: 4");
        due("the fourth", after(throwers(1, 1, 1)).thrower(1), 3);
        refused("the fifth", FULL, x -> x.thrower(0), throwers(1, 1, 1, 1));
        refused("the fifth behind more", FULL, x -> x.thrower(9), IN_USE, FULL_SKY);
        sentence(4, "BAD ahead of FULL");
        for (int f : new int[] {-1, 10}) refused("the fifth, thrower(" + f + ")", BAD, x -> x.thrower(f), IN_USE, FULL_SKY);
    }

    private static void ship() {
        sentence(5, "NEEDS (bits 1 .. 1023: STARS, there or not)");
        for (int n : new int[] {1, 2, 512, 1022, 1023}) {
            StarfishWatch y = after();
            due("ship(" + n + ")", y.ship(n), 0);
            due("NEEDS", y.of(0, 8), n);
        }
        for (int n : new int[] {0, -1, 1024, 1025, MIN, MAX}) refused("ship(" + n + ")", BAD, x -> x.ship(n), IN_USE);
        sentence(5, "its number: as they come");
        StarfishWatch y = after();
        for (int i = 0; i < 6; i++) due("ship " + i, y.ship(100 + i), i);
        for (int i = 0; i < 6; i++) due("NEEDS of " + i, y.of(i, 8), 100 + i);
        sentence(5, "FULL: 6");
        due("the sixth", after(ships(1, 1, 1, 1, 1)).ship(1), 5);
        refused("the seventh", FULL, x -> x.ship(1), ships(1, 1, 1, 1, 1, 1));
        refused("the seventh behind more", FULL, x -> x.ship(1023), IN_USE, FULL_SKY);
        sentence(5, "BAD ahead of FULL");
        for (int n : new int[] {0, 1024}) refused("the seventh, ship(" + n + ")", BAD, x -> x.ship(n), IN_USE, FULL_SKY);
    }

    private static void mendRanges() {
        for (int what = 0; what < 12; what++) {
            sentence(6, NAMES[what] + " (" + RANGE[what][0] + " .. " + RANGE[what][1] + ")");
            for (int number : new int[] {0, MOST[what] - 1}) {
                for (int v : RANGE[what]) mended(number, what, v);
            }
            if (what == 11) continue;
            int w = what;
            for (int v : new int[] {RANGE[what][0] - 1, RANGE[what][1] + 1, MIN, MAX, VOID}) {
                refused("mend(0, " + what + ", " + v + ")", VOID, x -> x.mend(0, w, v), IN_USE);
            }
        }
        sentence(6, "SEED (any number)");
        for (int v : new int[] {0, -1, BAD, NOT, VOID, MIN, MAX}) mended(0, 11, v);
    }

    /** The number becomes v: what it was is the answer. */
    private static void mended(int number, int what, int v) {
        Calls away = x -> { if (what == 0) x.mend(number, 0, 33); };
        StarfishWatch x = after(FULL_SKY, away);
        int was = x.of(number, what);
        due("mend(" + number + ", " + what + ", " + v + ")", x.mend(number, what, v), was);
        due("of(" + number + ", " + what + ")", x.of(number, what), v);
        due("telling it again", x.mend(number, what, v), v);
    }

    private static void mendHolders() {
        int[] few = {3, 3, 3, 3, 3, 3, 2, 2, 2, 1, 1, 1};
        for (int what = 0; what < 12; what++) {
            sentence(6, NAMES[what] + ": no such number is BAD, as VOID");
            int w = what, v = RANGE[what][0] + (what == 0 ? 30 : 0);
            due("the last of few", after(IN_USE).mend(few[what] - 1, what, v) == VOID ? 1 : 0, 0);
            due("the last of all", after(FULL_SKY).mend(MOST[what] - 1, what, v) == VOID ? 1 : 0, 0);
            for (int n : new int[] {-1, few[what], MIN, MAX}) refused("mend(" + n + ", " + what + ", " + v + ")", VOID, x -> x.mend(n, w, v), IN_USE);
            refused("mend(" + MOST[what] + ", " + what + ", " + v + ")", VOID, x -> x.mend(MOST[w], w, v), FULL_SKY);
        }
        sentence(6, "what 0 .. 11, else BAD, as VOID");
        for (int w : new int[] {-1, 12, 13, MIN, MAX}) {
            for (int n : new int[] {0, 47}) refused("mend(" + n + ", " + w + ", 1)", VOID, x -> x.mend(n, w, 1), IN_USE);
        }
        sentence(6, "nobody there: VOID, but for MINUTE, DAWN, SEED");
        for (int what = 0; what < 12; what++) {
            int w = what;
            if (what < 9) refused("mend(0, " + what + ", 1)", VOID, x -> x.mend(0, w, 1));
        }
        due("mend(0, 9, 1)", after().mend(0, 9, 1), 0);
        due("mend(0, 10, 1)", after().mend(0, 10, 1), 480);
        due("mend(0, 11, 1)", after().mend(0, 11, 1), 1);
    }

    private static void mendCells() {
        sentence(6, "CELL: one that is taken: BAD");
        refused("taken by the next", VOID, x -> x.mend(0, 0, 9), IN_USE);
        refused("taken by the one ahead", VOID, x -> x.mend(1, 0, 0), IN_USE);
        refused("taken by one that moved there", VOID, x -> x.mend(0, 0, 46), IN_USE);
        refused("taken by one that is GONE", VOID, x -> x.mend(0, 0, 1), cells(0, 1), x -> x.pocket(1));
        due("one that was left", after(IN_USE).mend(0, 0, 47), 0);
        sentence(6, "its own CELL is telling the same number, no change");
        unchanged("mend(0, 0, 0)", 0, x -> x.mend(0, 0, 0), IN_USE);
    }

    private static void mendAnswers() {
        sentence(6, "what it was; telling the same number is no change");
        for (int what = 0; what < 12; what++) {
            int w = what, v = after(IN_USE).of(0, what);
            unchanged("mend(0, " + what + ", " + v + ")", v, x -> x.mend(0, w, v), IN_USE);
        }
        sentence(6, "a SEED may have been VOID");
        StarfishWatch x = after(mend(0, 11, VOID));
        due("mend(0, 11, 4)", x.mend(0, 11, 4), VOID);
        due("of(0, 11)", x.of(0, 11), 4);
        due("count(3)", x.count(3), 2);
        sentence(6, "UP and GONE of a STAR become v, each by itself");
        StarfishWatch y = after(cells(1), mend(0, 5, 1), mend(0, 4, 1));
        due("UP", y.of(0, 4), 1);
        due("GONE", y.of(0, 5), 1);
        due("led(3)", y.led(3), 0);
        due("led(1)", y.led(1), 0);
    }

    private static void of() {
        for (int what = 0; what < 12; what++) {
            sentence(7, "As of mend(): " + NAMES[what] + " of those that there are; VOID: BAD");
            int w = what, few = after(IN_USE).count(what < 6 ? 0 : what < 8 ? 6 : 7);
            int none = what > 8 ? 1 : few;
            due("the last", after(IN_USE).of(none - 1, what) == VOID ? 1 : 0, 0);
            due("the last of all", after(FULL_SKY).of(MOST[what] - 1, what) == VOID ? 1 : 0, 0);
            for (int n : new int[] {-1, none, MIN, MAX}) refused("of(" + n + ", " + what + ")", VOID, x -> x.of(n, w), IN_USE);
            refused("of(" + MOST[what] + ", " + what + ")", VOID, x -> x.of(MOST[w], w), FULL_SKY);
        }
        sentence(7, "what 0 .. 12, else BAD, as VOID");
        for (int w : new int[] {-1, 13, MIN, MAX}) refused("of(0, " + w + ")", VOID, x -> x.of(0, w), IN_USE);
    }

    private static void ofCells() {
        sentence(7, "12 which STAR is in a CELL (NOT)");
        StarfishWatch x = after(cells(0, 47, 21));
        int[] in = {0, 47, 21};
        for (int s = 0; s < 3; s++) due("of(" + in[s] + ", 12)", x.of(in[s], 12), s);
        for (int c : new int[] {1, 20, 22, 46}) refused("of(" + c + ", 12)", NOT, y -> y.of(c, 12), cells(0, 47, 21));
        x.mend(1, 0, 46);
        due("the one it came to", x.of(46, 12), 1);
        due("the one it left", x.of(47, 12), NOT);
        x.pocket(0);
        due("one that is GONE", x.of(0, 12), 0);
        sentence(7, "CELLS 0 .. 47, else BAD, as VOID");
        due("of(0, 12)", after().of(0, 12), NOT);
        due("of(47, 12)", after().of(47, 12), NOT);
        for (int c : new int[] {-1, 48, MIN, MAX}) refused("of(" + c + ", 12)", VOID, y -> y.of(c, 12), IN_USE);
    }

    private static void asked() {
        sentence(7, "who asks changes nothing");
        unchanged("of(2, 0)", 46, x -> x.of(2, 0), IN_USE);
        unchanged("of(46, 12)", 2, x -> x.of(46, 12), IN_USE);
        unchanged("odds(0)", after(IN_USE).odds(0), x -> x.odds(0), IN_USE);
        unchanged("count(3)", 6, x -> x.count(3), IN_USE);
        unchanged("led(0)", 2, x -> x.led(0), IN_USE);
        unchanged("trace(0)", after(IN_USE).trace(0), x -> x.trace(0), IN_USE);
        unchanged("element(1, 2)", -7, x -> x.element(1, 2), IN_USE);
        unchanged("taken(3, 0)", 3, x -> x.taken(3, 0), IN_USE);
    }
}
