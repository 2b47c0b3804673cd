/** Boundary cases of promises 33 to 42: bodies and their acts, what shelves hold, and counts. */
public final class ShelfBoundsTests extends Bounds {
    private static final int[] ABOVE = {-1, 0, 0, 2, 1, 3, 0, 6};
    private static final String[] SORTS = {"bytes", "shorts", "ints", "longs", "booleans"};
    private static final Calls KINDS = x -> { for (int k = 0; k < 8; k++) x.body(k); };

    public static void main(String[] args) {
        body();
        actSticks();
        actDrops();
        actLies();
        actTells();
        actWraps();
        actNone();
        trace();
        traceEnds();
        keep();
        rowSizes();
        rowHolds();
        putKeeps();
        putRefused();
        element();
        shiftPlaces();
        shiftSame();
        shiftRefused();
        shiftNamedFirst();
        taken();
        counts();
        end();
    }

    private static void body() {
        sentence(33, "KINDS 0 .. 7, else BAD");
        for (int k = 0; k < 8; k++) due("body(" + k + ")", after().body(k), 0);
        for (int k : new int[] {-1, 8, MIN, MAX}) refused("body(" + k + ")", BAD, x -> x.body(k), IN_USE);
        sentence(33, "BODIES 0 .. 49: its number; FULL");
        StarfishWatch x = after();
        for (int i = 0; i < 50; i++) due("body " + i, x.body((i + 3) % 8), i);
        due("count(4)", x.count(4), 50);
        for (int i = 0; i < 50; i++) {
            x.keep(0, i);
            due("taken of " + i, x.taken(0, 0), (i + 3) % 8);
        }
        Calls fifty = y -> { while (y.count(4) < 50) y.body(y.count(4) % 8); };
        due("the last one", after(IN_USE, y -> { while (y.count(4) < 49) y.body(0); }).body(7), 49);
        for (int k = 0; k < 8; k++) {
            int kind = k;
            refused("the one behind, body(" + k + ")", FULL, y -> y.body(kind), IN_USE, fifty);
        }
        sentence(33, "BAD ahead of FULL");
        for (int k : new int[] {-1, 8}) refused("the one behind, body(" + k + ")", BAD, y -> y.body(k), IN_USE, fifty);
    }

    /** A body of the kind, of that number: ahead of it others. */
    private static StarfishWatch numbered(int kind, int n) {
        StarfishWatch x = after();
        for (int i = 0; i < n; i++) x.body(0);
        x.body(kind);
        return x;
    }

    private static void acts(int kind, int act, int n, int x, int want) {
        due("act(" + n + ", " + act + ", " + x + ") of KIND " + kind, numbered(kind, n).act(n, act, x), want);
    }

    private static void actSticks() {
        sentence(34, "sticks: 1, 20, 70, 81");
        for (int n : new int[] {0, 1, 49}) {
            for (int x : new int[] {-9, 0, 7}) {
                for (int kind : new int[] {0, 2, 3, 5}) acts(kind, 0, n, x, x + n);
                for (int kind : new int[] {1, 4}) acts(kind, 0, n, x, x + n + 3);
                acts(6, 0, n, x, (x + n) * 2);
                acts(7, 0, n, x, (x + n) * 2 - 1);
            }
        }
    }

    private static void actDrops() {
        sentence(34, "drops: 10, 30, 41, 80");
        for (int n : new int[] {0, 1, 49}) {
            for (int x : new int[] {-9, 0, 7}) {
                acts(0, 1, n, x, (x + n) * 2);
                for (int kind : new int[] {1, 4}) acts(kind, 1, n, x, (x + n + 3) * 2);
                acts(2, 1, n, x, -((x + n) * 2));
                for (int kind : new int[] {3, 5}) acts(kind, 1, n, x, -((x + 1 + n) * 2));
                acts(6, 1, n, x, (x + n) * 4);
                acts(7, 1, n, x, ((x + n) * 2 - 1) * 2 + (2 ^ n));
            }
        }
    }

    private static void actLies() {
        sentence(34, "lies: 11, 40, 60");
        for (int n : new int[] {0, 1, 49}) {
            for (int x : new int[] {-9, 0, 7}) {
                for (int kind : new int[] {0, 1, 2, 4, 6, 7}) acts(kind, 2, n, x, x ^ n);
                acts(3, 2, n, x, (x ^ n) * 3);
                acts(5, 2, n, x, (x ^ n) * 3 - (2 + n));
            }
        }
    }

    private static void actTells() {
        sentence(34, "tells: 2, 50, 61");
        for (int n : new int[] {0, 1, 49}) {
            for (int x : new int[] {-9, 0, 7}) {
                acts(0, 3, n, x, (x + n) * 2 - (1 ^ n));
                acts(1, 3, n, x, (x + n + 3) * 2 - (1 ^ n));
                acts(2, 3, n, x, -((x + n) * 2) - (1 ^ n));
                acts(3, 3, n, x, -((x + 1 + n) * 2) - (1 ^ n) * 3);
                acts(4, 3, n, x, ((x + n + 3) * 2 - (1 ^ n)) ^ 5);
                acts(5, 3, n, x, -((x + 1 + n) * 2) - ((1 ^ n) * 3 - (2 + n)) + 1);
                acts(6, 3, n, x, (x + n) * 4 - (1 ^ n));
                acts(7, 3, n, x, ((x + n) * 2 - 1) * 2 + (2 ^ n) - (1 ^ n));
            }
        }
    }

    private static void actWraps() {
        sentence(34, "x (an int that wraps)");
        for (int n : new int[] {0, 1, 49}) {
            for (int x : new int[] {MIN, MIN + 1, -1, MAX - 1, MAX, 1 << 30}) {
                acts(0, 0, n, x, x + n);
                acts(1, 0, n, x, x + n + 3);
                acts(7, 0, n, x, (x + n) * 2 - 1);
                acts(3, 1, n, x, -((x + 1 + n) * 2));
                acts(7, 1, n, x, ((x + n) * 2 - 1) * 2 + (2 ^ n));
                acts(5, 2, n, x, (x ^ n) * 3 - (2 + n));
                acts(4, 3, n, x, ((x + n + 3) * 2 - (1 ^ n)) ^ 5);
                acts(5, 3, n, x, -((x + 1 + n) * 2) - ((1 ^ n) * 3 - (2 + n)) + 1);
            }
        }
        acts(0, 0, 1, MAX, MIN);
        acts(2, 1, 0, 1 << 30, MIN);
        acts(3, 1, 0, MAX, 0);
    }

    private static void actNone() {
        sentence(34, "0, and no TRACE then: no such BODY, ACT");
        int[][] none = {{-1, 0}, {8, 0}, {50, 0}, {MIN, 0}, {MAX, 0}, {0, -1}, {0, 4}, {0, MIN}, {0, MAX}, {8, 4}};
        for (int[] a : none) {
            StarfishWatch x = after(KINDS);
            x.act(7, 3, 5);
            due("count(5)", x.count(5), 8);
            due("act(" + a[0] + ", " + a[1] + ", 5)", x.act(a[0], a[1], 5), 0);
            due("count(5)", x.count(5), 0);
            for (int i = 0; i < 12; i++) due("trace(" + i + ")", x.trace(i), BAD);
        }
        due("no BODIES", after().act(0, 0, 5), 0);
        due("the last one", after(KINDS).act(7, 2, 0), 7);
        due("the last of all", numbered(2, 49).act(49, 2, 0), 49);
        due("ACT 3", after(KINDS).act(0, 3, 5), 9);
    }

    private static void traced(int kind, int act, int... numbers) {
        StarfishWatch x = numbered(kind, 3);
        x.act(3, act, 5);
        due("count(5) of KIND " + kind + ", ACT " + act, x.count(5), numbers.length);
        for (int i = 0; i < numbers.length; i++) due("trace(" + i + ") of KIND " + kind + ", ACT " + act, x.trace(i), numbers[i]);
        due("trace(" + numbers.length + ") of KIND " + kind + ", ACT " + act, x.trace(numbers.length), BAD);
    }

    private static void trace() {
        sentence(35, "numbers of the bodies that ran in the latest act(), as they began");
        int[][][] all = {
            {{1}, {10, 1}, {11}, {2, 10, 1, 11}},
            {{20, 1}, {10, 20, 1}, {11}, {2, 10, 20, 1, 11}},
            {{1}, {30, 10, 1}, {11}, {2, 30, 10, 1, 11}},
            {{1}, {41, 30, 10, 1}, {40, 11}, {2, 41, 30, 10, 1, 40, 11}},
            {{20, 1}, {10, 20, 1}, {11}, {50, 2, 10, 20, 1, 11}},
            {{1}, {41, 30, 10, 1}, {60, 40, 11, 1}, {61, 2, 41, 30, 10, 1, 60, 40, 11, 1}},
            {{70, 1}, {10, 70, 1}, {11}, {2, 10, 70, 1, 11}},
            {{81, 70, 1}, {80, 10, 81, 70, 1, 11}, {11}, {2, 80, 10, 81, 70, 1, 11, 11}}};
        for (int kind = 0; kind < 8; kind++) {
            for (int act = 0; act < 4; act++) traced(kind, act, all[kind][act]);
        }
    }

    private static void traceEnds() {
        sentence(35, "THE TRACE's i-th body. BAD");
        for (int i : new int[] {-1, 7, 23, 24, 25, MIN, MAX}) refused("trace(" + i + ")", BAD, x -> x.trace(i), KINDS, y -> y.act(3, 3, 5));
        for (int i : new int[] {0, 6}) due("trace(" + i + ")", after(KINDS, y -> y.act(3, 3, 5)).trace(i), i == 0 ? 2 : 11);
        refused("trace(0) of none", BAD, x -> x.trace(0));
        sentence(35, "the latest act(): a shorter one behind a longer one");
        StarfishWatch x = after(KINDS, y -> y.act(5, 3, 5), y -> y.act(0, 1, 5));
        due("count(5)", x.count(5), 2);
        due("trace(1)", x.trace(1), 1);
        due("trace(2)", x.trace(2), BAD);
        sentence(35, "no other call leaves a trace, or takes it away");
        StarfishWatch z = after(IN_USE, y -> y.act(2, 3, 5));
        z.body(3);
        z.keep(0, 1);
        z.taken(0, 0);
        z.row(1, 0, 3);
        z.undo();
        due("count(5)", z.count(5), 10);
        due("trace(0)", z.trace(0), 61);
    }

    private static void keep() {
        sentence(36, "A SHELF holds nothing (body -1), or a BODY: 1");
        for (int s = 0; s < 6; s++) {
            StarfishWatch x = after(KINDS);
            due("keep(" + s + ", 0)", x.keep(s, 0), 1);
            due("taken", x.taken(s, 0), 0);
            due("keep(" + s + ", 7)", x.keep(s, 7), 1);
            due("taken", x.taken(s, 0), 7);
            due("keep(" + s + ", -1)", x.keep(s, -1), 1);
            due("taken", x.taken(s, 0), MISSING);
            due("keep(" + s + ", -1), again", x.keep(s, -1), 1);
            x.row(s, 3, 4);
            due("keep(" + s + ", 5) over a ROW", x.keep(s, 5), 1);
            due("put", x.put(s, 0, 1), UNLIKE);
            x.row(s, 3, 4);
            due("keep(" + s + ", -1) over a ROW", x.keep(s, -1), 1);
            due("put", x.put(s, 0, 1), MISSING);
        }
        due("the fiftieth BODY", numbered(4, 49).keep(0, 49), 1);
        sentence(36, "SHELVES 0 .. 5, else BAD");
        for (int s : new int[] {-1, 6, MIN, MAX}) {
            for (int b : new int[] {-1, 0}) refused("keep(" + s + ", " + b + ")", BAD, x -> x.keep(s, b), IN_USE);
        }
        sentence(36, "no such BODY: BAD");
        for (int b : new int[] {-2, 8, 49, 50, MIN, MAX}) {
            for (int s : new int[] {0, 3, 5}) refused("keep(" + s + ", " + b + ")", BAD, x -> x.keep(s, b), IN_USE);
        }
        refused("keep(0, 0) of none", BAD, x -> x.keep(0, 0));
        due("keep(0, -1) of none", after().keep(0, -1), 1);
        sentence(36, "the same BODY on two SHELVES");
        StarfishWatch x = after(KINDS, y -> y.keep(1, 4), y -> y.keep(2, 4), y -> y.keep(1, -1));
        due("taken(2, 4)", x.taken(2, 4), 4);
    }

    private static void rowSizes() {
        sentence(37, "of 0 .. 60 elements; sorts 0 .. 4");
        for (int sort = 0; sort < 5; sort++) {
            for (int n : new int[] {0, 1, 59, 60}) {
                StarfishWatch x = after();
                due("row(5, " + sort + ", " + n + ")", x.row(5, sort, n), 1);
                due("place " + n, x.put(5, n, 1), NO_PLACE);
                due("the last place", x.put(5, n - 1, 1), n == 0 ? NO_PLACE : 1);
            }
        }
        sentence(37, "BAD (sort, n above 60)");
        for (int n : new int[] {61, 62, 127, MAX}) refused("row(0, 0, " + n + ")", BAD, x -> x.row(0, 0, n), IN_USE);
        for (int s : new int[] {-1, 5, MIN, MAX}) refused("row(0, " + s + ", 4)", BAD, x -> x.row(0, s, 4), IN_USE);
        sentence(37, "SHELVES 0 .. 5, else BAD");
        for (int s = 0; s < 6; s++) due("row(" + s + ", 0, 1)", after().row(s, 0, 1), 1);
        for (int s : new int[] {-1, 6, MIN, MAX}) refused("row(" + s + ", 0, 4)", BAD, x -> x.row(s, 0, 4), IN_USE);
        sentence(37, "-14 a size below 0");
        for (int n : new int[] {-1, -2, MIN}) {
            for (int shelf : new int[] {0, 3, 5}) refused("row(" + shelf + ", 4, " + n + ")", NO_SIZE, x -> x.row(shelf, 4, n), IN_USE);
        }
        sentence(37, "BAD ahead of -14");
        refused("sort 5, n -1", BAD, x -> x.row(0, 5, -1), IN_USE);
        refused("sort -1, n -1", BAD, x -> x.row(0, -1, -1), IN_USE);
        refused("shelf 6, n -1", BAD, x -> x.row(6, 0, -1), IN_USE);
        refused("shelf -1, n -1", BAD, x -> x.row(-1, 0, -1), IN_USE);
    }

    private static void rowHolds() {
        sentence(37, "A SHELF holds a ROW: all 0 (false), whatever it held");
        for (int sort = 0; sort < 5; sort++) {
            StarfishWatch x = after(y -> y.row(0, 3, 60), y -> { for (int i = 0; i < 60; i++) y.put(0, i, -1); });
            x.row(0, sort, 60);
            for (int i = 0; i < 60; i++) due("element " + i, x.element(0, i), 0);
        }
        StarfishWatch x = after(KINDS, y -> y.keep(0, 3), y -> y.row(0, 2, 2));
        due("over a BODY", x.taken(0, 0), UNLIKE);
        due("element(0, 1)", x.element(0, 1), 0);
        due("element(0, 2)", x.element(0, 2), NO_LONG);
        sentence(37, "a shorter one, then a longer one: nothing of the first comes back");
        StarfishWatch z = after(y -> y.row(0, 0, 9), y -> y.put(0, 8, 7), y -> y.row(0, 0, 3), y -> y.row(0, 0, 9));
        due("element(0, 8)", z.element(0, 8), 0);
        z.put(0, 8, 7);
        z.keep(0, -1);
        z.row(0, 0, 9);
        due("element(0, 8)", z.element(0, 8), 0);
        sentence(37, "each SHELF holds its own");
        StarfishWatch w = after();
        for (int s = 0; s < 6; s++) {
            w.row(s, 3, 2);
            w.put(s, 1, 100 + s);
        }
        for (int s = 0; s < 6; s++) due("element(" + s + ", 1)", w.element(s, 1), 100 + s);
    }

    private static void kept(int sort, long v, long want) {
        StarfishWatch x = after(y -> y.row(4, sort, 3), y -> y.put(4, 0, 1), y -> y.put(4, 2, 1));
        due("put " + v + " in " + SORTS[sort], x.put(4, 1, v), 1);
        due(v + " in " + SORTS[sort], x.element(4, 1), want);
        due("the place ahead", x.element(4, 0), 1);
        due("the place behind", x.element(4, 2), 1);
    }

    private static void putKeeps() {
        sentence(38, "what is put in keeps its lowest bits: bytes");
        long[][] bytes = {{0, 0}, {127, 127}, {128, -128}, {-128, -128}, {-129, 127}, {255, -1}, {256, 0}, {257, 1}, {-256, 0}, {Long.MAX_VALUE, -1}, {Long.MIN_VALUE, 0}, {1L << 32, 0}};
        for (long[] b : bytes) kept(0, b[0], b[1]);
        sentence(38, "shorts");
        long[][] shorts = {{0, 0}, {32767, 32767}, {32768, -32768}, {-32768, -32768}, {-32769, 32767}, {65535, -1}, {65536, 0}, {Long.MAX_VALUE, -1}, {Long.MIN_VALUE, 0}, {128, 128}};
        for (long[] b : shorts) kept(1, b[0], b[1]);
        sentence(38, "ints");
        long[][] ints = {{0, 0}, {MAX, MAX}, {MAX + 1L, MIN}, {MIN, MIN}, {MIN - 1L, MAX}, {(1L << 32) - 1, -1}, {1L << 32, 0}, {Long.MAX_VALUE, -1}, {Long.MIN_VALUE, 0}, {32768, 32768}};
        for (long[] b : ints) kept(2, b[0], b[1]);
        sentence(38, "longs");
        for (long v : new long[] {0, 1, -1, 1L << 31, 1L << 32, Long.MAX_VALUE, Long.MIN_VALUE, Long.MIN_VALUE + 1}) kept(3, v, v);
        sentence(38, "a boolean: whether it is not 0; 1 or 0");
        for (long v : new long[] {1, 2, -1, 256, 65536, 1L << 32, 1L << 63, Long.MAX_VALUE, Long.MIN_VALUE}) kept(4, v, 1);
        kept(4, 0, 0);
        StarfishWatch x = after(y -> y.row(0, 4, 1), y -> y.put(0, 0, 9), y -> y.put(0, 0, 0));
        due("true, then false", x.element(0, 0), 0);
    }

    private static void putRefused() {
        sentence(38, "-13 a place that is not there");
        for (int sort = 0; sort < 5; sort++) {
            int of = sort;
            for (int i : new int[] {-1, 4, 5, 59, 60, 61, MIN, MAX}) refused("put(5, " + i + ", 1) in " + SORTS[sort], NO_PLACE, x -> x.put(5, i, 1), IN_USE, x -> x.row(5, of, 4));
            refused("put(5, 0, 1) in none of " + SORTS[sort], NO_PLACE, x -> x.put(5, 0, 1), IN_USE, x -> x.row(5, of, 0));
            refused("put(5, 60, 1) in sixty " + SORTS[sort], NO_PLACE, x -> x.put(5, 60, 1), IN_USE, x -> x.row(5, of, 60));
            due("put(5, 3, 1)", after(x -> x.row(5, of, 4)).put(5, 3, 1), 1);
            due("put(5, 0, 1)", after(x -> x.row(5, of, 4)).put(5, 0, 1), 1);
        }
        sentence(38, "-11; -12 (a BODY), ahead of -13");
        for (int i : new int[] {0, -1, 60}) {
            refused("put(5, " + i + ", 1)", MISSING, x -> x.put(5, i, 1), IN_USE);
            refused("put(3, " + i + ", 1)", UNLIKE, x -> x.put(3, i, 1), IN_USE);
        }
        sentence(38, "SHELVES 0 .. 5, else BAD, ahead of the others");
        for (int s : new int[] {-1, 6, MIN, MAX}) {
            for (int i : new int[] {0, -1, 60}) refused("put(" + s + ", " + i + ", 1)", BAD, x -> x.put(s, i, 1), IN_USE);
        }
    }

    private static void element() {
        sentence(39, "Element i of a ROW, of each sort");
        for (int sort = 0; sort < 5; sort++) {
            int of = sort;
            StarfishWatch x = after(y -> y.row(1, of, 60), y -> y.put(1, 0, 1), y -> y.put(1, 59, 1));
            due("element(1, 0)", x.element(1, 0), 1);
            due("element(1, 1)", x.element(1, 1), 0);
            due("element(1, 59)", x.element(1, 59), 1);
            sentence(39, "-13, as Long.MIN_VALUE: " + SORTS[sort]);
            for (int i : new int[] {-1, 4, 5, 59, 60, MIN, MAX}) refused("element(5, " + i + ")", NO_LONG, y -> y.element(5, i), IN_USE, y -> y.row(5, of, 4));
            refused("element(5, 0) of none", NO_LONG, y -> y.element(5, 0), IN_USE, y -> y.row(5, of, 0));
            refused("element(5, 60) of sixty", NO_LONG, y -> y.element(5, 60), IN_USE, y -> y.row(5, of, 60));
        }
        sentence(39, "BAD, -11, -12, as Long.MIN_VALUE");
        for (int s : new int[] {-1, 6, MIN, MAX}) refused("element(" + s + ", 0)", NO_LONG, x -> x.element(s, 0), IN_USE);
        refused("nothing", NO_LONG, x -> x.element(5, 0), IN_USE);
        refused("a BODY", NO_LONG, x -> x.element(3, 0), IN_USE);
        sentence(39, "nothing, or a BODY, where a ROW was: none of its elements is there");
        Calls was = x -> { bytes(x, 0, 7, 0, 1); bytes(x, 1, 1, 0, 1); };
        Calls[] since = {x -> x.keep(0, -1), x -> x.keep(0, 2)};
        for (int i = 0; i < 2; i++) {
            int want = i == 0 ? MISSING : UNLIKE;
            refused("element(0, 0)", NO_LONG, x -> x.element(0, 0), IN_USE, was, since[i]);
            refused("put(0, 0, 1)", want, x -> x.put(0, 0, 1), IN_USE, was, since[i]);
            refused("shift(0, 0, 1, 0, 1)", want, x -> x.shift(0, 0, 1, 0, 1), IN_USE, was, since[i]);
            refused("shift(1, 0, 0, 0, 1)", want, x -> x.shift(1, 0, 0, 0, 1), IN_USE, was, since[i]);
            refused("flung(0, -1)", want, x -> x.flung(0, -1), IN_USE, was, since[i]);
            refused("likely(0, 1)", NO_LONG, x -> x.likely(0, 1), IN_USE, was, since[i]);
            refused("mean(0, 1)", NO_LONG, x -> x.mean(0, 1), IN_USE, was, since[i]);
            refused("home(0, 0)", want, x -> x.home(0, 0), IN_USE, was, since[i]);
            refused("pattern(0, 0)", want, x -> x.pattern(0, 0), IN_USE, was, since[i]);
            refused("drawn(1, 0, 1, -1)", want, x -> x.drawn(1, 0, 1, -1), IN_USE, was, since[i]);
            unchanged("stars(0, 0, 1)", i == 0 ? 0 : UNLIKE, x -> x.stars(0, 0, 1), IN_USE, was, since[i]);
        }
        refused("taken(3, 0), a ROW where a BODY was", UNLIKE, x -> x.taken(3, 0), IN_USE, x -> x.row(3, 0, 1));
        refused("taken(3, 0), nothing where a BODY was", MISSING, x -> x.taken(3, 0), IN_USE, x -> x.keep(3, -1));
        sentence(39, "an element may be Long.MIN_VALUE itself, and BAD, NOT");
        StarfishWatch x = after(y -> y.row(0, 3, 3), y -> y.put(0, 0, Long.MIN_VALUE), y -> y.put(0, 1, -1), y -> y.put(0, 2, -2));
        due("element(0, 0)", x.element(0, 0), Long.MIN_VALUE);
        due("element(0, 1)", x.element(0, 1), -1);
        due("element(0, 2)", x.element(0, 2), -2);
    }

    /** Rows of longs: 1 .. 5 on shelf 0, 11 .. 13 on shelf 1. */
    private static final Calls ROWS = x -> {
        x.row(0, 3, 5);
        for (int i = 0; i < 5; i++) x.put(0, i, i + 1);
        x.row(1, 3, 3);
        for (int i = 0; i < 3; i++) x.put(1, i, i + 11);
    };

    private static void shifted(int i, int other, int j, int n, long... all) {
        StarfishWatch x = after(ROWS);
        due("shift(0, " + i + ", " + other + ", " + j + ", " + n + ")", x.shift(0, i, other, j, n), n);
        for (int k = 0; k < all.length; k++) due("element(" + other + ", " + k + ")", x.element(other, k), all[k]);
        for (int k = 0; k < 5 && other != 0; k++) due("element(0, " + k + ")", x.element(0, k), k + 1);
    }

    private static void shiftPlaces() {
        sentence(40, "n elements of a ROW from i on come to another one from j on: n");
        shifted(0, 1, 0, 3, 1, 2, 3);
        shifted(2, 1, 0, 3, 3, 4, 5);
        shifted(4, 1, 2, 1, 11, 12, 5);
        shifted(0, 1, 0, 1, 1, 12, 13);
        shifted(1, 1, 1, 2, 11, 2, 3);
        sentence(40, "n 0, at the ends, too");
        for (int i : new int[] {0, 4, 5}) {
            for (int j : new int[] {0, 2, 3}) shifted(i, 1, j, 0, 11, 12, 13);
        }
        due("of rows of none", after(x -> x.row(0, 0, 0), x -> x.row(1, 0, 0)).shift(0, 0, 1, 0, 0), 0);
        due("of sixty", after(x -> x.row(0, 0, 60), x -> x.row(1, 0, 60)).shift(0, 0, 1, 0, 60), 60);
        sentence(40, "of each sort, one like the other");
        for (int sort = 0; sort < 5; sort++) {
            int of = sort;
            StarfishWatch x = after(y -> y.row(2, of, 3), y -> y.put(2, 2, -1), y -> y.row(5, of, 2));
            due("sort " + sort, x.shift(2, 2, 5, 1, 1), 1);
            due("element(5, 1)", x.element(5, 1), of == 4 ? 1 : -1);
        }
    }

    private static void shiftSame() {
        sentence(40, "(or the same), as they all were before");
        shifted(0, 0, 1, 4, 1, 1, 2, 3, 4);
        shifted(1, 0, 0, 4, 2, 3, 4, 5, 5);
        shifted(0, 0, 2, 3, 1, 2, 1, 2, 3);
        shifted(2, 0, 0, 3, 3, 4, 5, 4, 5);
        shifted(0, 0, 0, 5, 1, 2, 3, 4, 5);
        shifted(0, 0, 4, 1, 1, 2, 3, 4, 1);
        shifted(4, 0, 0, 1, 5, 2, 3, 4, 5);
        shifted(3, 0, 3, 2, 1, 2, 3, 4, 5);
        shifted(5, 0, 5, 0, 1, 2, 3, 4, 5);
    }

    private static void shiftRefused() {
        sentence(40, "-13 (n below 0, too)");
        int[][] all = {{0, 0, -1}, {0, 0, MIN}, {-1, 0, 1}, {-1, 0, 0}, {MIN, 0, 1}, {5, 0, 1}, {6, 0, 0}, {4, 0, 2}, {3, 0, 3}, {0, -1, 1}, {0, -1, 0}, {0, MIN, 0},
            {0, 3, 1}, {0, 4, 0}, {0, 2, 2}, {0, 1, 3}, {0, 0, 4}, {0, 0, 6}, {0, 0, MAX}, {MAX, 0, 1}, {MAX, 0, MAX}, {0, MAX, MAX}, {1, 1, MAX}, {MIN, 0, MIN}, {1, 0, -1}};
        for (int[] a : all) refused("shift(0, " + a[0] + ", 1, " + a[1] + ", " + a[2] + ")", NO_PLACE, x -> x.shift(0, a[0], 1, a[1], a[2]), IN_USE, ROWS);
        int[][] same = {{1, 0, 5}, {0, 1, 5}, {5, 0, 1}, {0, 5, 1}, {0, 0, 6}, {0, 0, -1}};
        for (int[] a : same) refused("shift(0, " + a[0] + ", 0, " + a[1] + ", " + a[2] + ")", NO_PLACE, x -> x.shift(0, a[0], 0, a[1], a[2]), IN_USE, ROWS);
        sentence(40, "-11 (either)");
        refused("nothing here", MISSING, x -> x.shift(5, 0, 0, 0, 1), IN_USE, ROWS);
        refused("nothing there", MISSING, x -> x.shift(0, 0, 5, 0, 1), IN_USE, ROWS);
        refused("nothing, to itself", MISSING, x -> x.shift(5, 0, 5, 0, 0), IN_USE, ROWS);
        sentence(40, "-12 (no ROWS, or of unlike sorts)");
        refused("a BODY here", UNLIKE, x -> x.shift(3, 0, 0, 0, 1), IN_USE, ROWS);
        refused("a BODY there", UNLIKE, x -> x.shift(0, 0, 3, 0, 1), IN_USE, ROWS);
        refused("a BODY, to itself", UNLIKE, x -> x.shift(3, 0, 3, 0, 0), IN_USE, ROWS);
        refused("two BODIES", UNLIKE, x -> x.shift(3, 0, 5, 0, 0), IN_USE, ROWS, x -> x.keep(5, 1));
        for (int a = 0; a < 5; a++) {
            for (int b = 0; b < 5; b++) {
                int from = a, to = b;
                Calls rows = x -> { x.row(0, from, 4); x.row(1, to, 4); };
                if (a == b) due("sorts alike, " + SORTS[a], after(rows).shift(0, 0, 1, 0, 4), 4);
                else refused("from " + SORTS[a] + " to " + SORTS[b], UNLIKE, x -> x.shift(0, 0, 1, 0, 0), IN_USE, rows);
            }
        }
        sentence(40, "SHELVES 0 .. 5, else BAD");
        for (int s : new int[] {-1, 6, MIN, MAX}) {
            refused("shift(" + s + ", 0, 0, 0, 1)", BAD, x -> x.shift(s, 0, 0, 0, 1), IN_USE, ROWS);
            refused("shift(0, 0, " + s + ", 0, 1)", BAD, x -> x.shift(0, 0, s, 0, 1), IN_USE, ROWS);
        }
    }

    private static void shiftNamedFirst() {
        sentence(40, "of several the one named first: BAD, -11, -12, -13");
        refused("shelf 6 and nothing", BAD, x -> x.shift(6, 0, 5, 0, 1), IN_USE, ROWS);
        refused("nothing and shelf -1", BAD, x -> x.shift(5, 0, -1, 0, 1), IN_USE, ROWS);
        refused("shelf 6, n -1", BAD, x -> x.shift(6, 0, 0, 0, -1), IN_USE, ROWS);
        refused("a BODY and shelf 6", BAD, x -> x.shift(3, 0, 6, 0, 1), IN_USE, ROWS);
        refused("nothing and a BODY", MISSING, x -> x.shift(5, 0, 3, 0, 1), IN_USE, ROWS);
        refused("a BODY and nothing", MISSING, x -> x.shift(3, 0, 5, 0, 1), IN_USE, ROWS);
        refused("nothing, n -1", MISSING, x -> x.shift(0, 0, 5, 0, -1), IN_USE, ROWS);
        refused("nothing here, i -1", MISSING, x -> x.shift(5, -1, 0, 0, 1), IN_USE, ROWS);
        refused("a BODY, n -1", UNLIKE, x -> x.shift(3, 0, 0, 0, -1), IN_USE, ROWS);
        refused("unlike sorts, n -1", UNLIKE, x -> x.shift(0, 0, 2, 0, -1), IN_USE, ROWS);
        refused("unlike sorts, i 9", UNLIKE, x -> x.shift(0, 9, 2, 0, 1), IN_USE, ROWS);
    }

    private static void taken() {
        sentence(41, "taken for a BODY of KIND k, or under it: its KIND");
        for (int kind = 0; kind < 8; kind++) {
            for (int k = 0; k < 8; k++) {
                boolean under = false;
                for (int at = kind; at >= 0; at = ABOVE[at]) under |= at == k;
                int of = kind, as = k;
                refused("KIND " + kind + " taken for " + k, under ? kind : UNLIKE, x -> x.taken(4, as), KINDS, x -> x.keep(4, of));
            }
        }
        sentence(41, "KINDS 0 .. 7, else BAD, ahead of -11, -12");
        for (int k : new int[] {-1, 8, MIN, MAX}) {
            for (int s : new int[] {0, 3, 5}) refused("taken(" + s + ", " + k + ")", BAD, x -> x.taken(s, k), IN_USE);
        }
        sentence(41, "SHELVES 0 .. 5, else BAD");
        for (int s : new int[] {-1, 6, MIN, MAX}) refused("taken(" + s + ", 0)", BAD, x -> x.taken(s, 0), IN_USE);
        sentence(41, "-11; -12 (a ROW)");
        for (int k = 0; k < 8; k++) {
            int as = k;
            refused("nothing", MISSING, x -> x.taken(5, as), IN_USE);
            for (int s : new int[] {0, 1, 2, 4}) refused("a ROW", UNLIKE, x -> x.taken(s, as), IN_USE);
        }
    }

    private static void counts() {
        sentence(42, "what 0 .. 7, else BAD");
        for (int w : new int[] {-1, 8, MIN, MAX}) refused("count(" + w + ")", BAD, x -> x.count(w), IN_USE);
        int[] inUse = {3, after(IN_USE).of(0, 4) + 1, 3, 6, 8, 10, 2, 2};
        for (int w = 0; w < 8; w++) due("count(" + w + ")", after(IN_USE).count(w), inUse[w]);
        sentence(42, "0 STARS, 1 UP");
        StarfishWatch x = after();
        for (int i = 0; i < 10; i++) {
            x.star(i);
            x.mend(i, 4, 1);
            due("count(0)", x.count(0), i + 1);
            due("count(1)", x.count(1), i + 1);
        }
        x.pocket(3);
        x.pocket(4);
        due("count(1) behind pockets", x.count(1), 8);
        due("count(0) behind pockets", x.count(0), 10);
        x.pass(999);
        due("count(1) behind drops", x.count(1), 0);
        sentence(42, "2 bytes on THE TAPE");
        StarfishWatch t = after();
        for (int i = 1; i <= 122; i++) {
            t.feed('1');
            due("count(2)", t.count(2), Math.min(120, i));
        }
        t.law();
        due("count(2) behind law()", t.count(2), 0);
        sentence(42, "3 changes that may be UNDONE, not those that may be DONE AGAIN");
        StarfishWatch c = after(mend(0, 9, 1), mend(0, 9, 2), y -> y.undo());
        due("count(3)", c.count(3), 1);
        c.redo();
        due("count(3)", c.count(3), 2);
        sentence(42, "4 BODIES, 6 THROWERS, 7 SHIPS: to the last");
        StarfishWatch f = after(FULL_SKY, y -> { for (int i = 0; i < 51; i++) y.body(0); });
        due("count(4)", f.count(4), 50);
        due("count(6)", f.count(6), 4);
        due("count(7)", f.count(7), 6);
        sentence(42, "5 bodies that ran in the latest act() (all, kept or not)");
        StarfishWatch b = after(KINDS);
        due("none yet", b.count(5), 0);
        b.act(5, 3, 1);
        due("the most", b.count(5), 10);
        b.act(7, 3, 1);
        due("of a POCKET", b.count(5), 8);
        b.act(7, 4, 1);
        due("no such ACT", b.count(5), 0);
    }
}
