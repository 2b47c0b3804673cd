/** Boundary cases of promises 11 to 18: plans of throws, deals, drops, the sand and the walk. */
public final class PlanBoundsTests extends Bounds {
    private static final Calls TEN = cells(0, 1, 2, 3, 4, 5, 6, 7, 8, 9);
    private static final int[] ALL_TEN = {0, 0, 1, 0, 2, 0, 3, 0, 4, 0, 5, 0, 6, 0, 7, 0, 8, 0, 9, 0};

    public static void main(String[] args) {
        planEnds();
        planHolds();
        flungMinutes();
        flungDone();
        flungAnswers();
        likely();
        mean();
        partsRefused();
        dealtStates();
        dealtWho();
        drops();
        upBy();
        lies();
        walkPlaces();
        walkEnds();
        walkLeft();
        walkRefused();
        asked();
        end();
    }

    /** How many throws a row plans, of stars 0 .. 3, of which 3 is GONE, and throwers 0, 1. */
    private static int thrown(int... row) {
        StarfishWatch x = after(cells(0, 1, 2, 3), throwers(1, 2), y -> y.pocket(3), plan(2, row));
        int k = 0;
        while (k < 12 && x.flung(2, k) >= 0) k++;
        due("flung(2, " + k + ")", x.flung(2, k), NOT);
        return k;
    }

    private static void planEnds() {
        sentence(11, "A PLAN: by twos a STAR and a THROWER; it ends with what is no such");
        due("all", thrown(0, 0, 1, 1, 2, 0), 3);
        for (int s : new int[] {-1, 4, 10, 127, 128}) due("STAR " + s, thrown(0, 0, s, 0, 2, 0), 1);
        for (int t : new int[] {-1, 2, 4, 127, 128}) due("THROWER " + t, thrown(0, 0, 1, t, 2, 0), 1);
        due("no such at first", thrown(4, 0, 1, 0), 0);
        sentence(11, "it ends with the row, within a two, too");
        due("none", thrown(), 0);
        due("one byte", thrown(0), 0);
        due("two bytes", thrown(0, 1), 1);
        due("three bytes", thrown(0, 1, 1), 1);
        sentence(11, "a STAR that came before in it ends it, too");
        due("at once", thrown(0, 0, 0, 0, 1, 0), 1);
        due("by another THROWER", thrown(0, 0, 0, 1, 1, 0), 1);
        due("later", thrown(0, 0, 1, 0, 2, 0, 0, 1), 3);
        due("the last that came", thrown(0, 0, 1, 0, 2, 0, 2, 1), 3);
        sentence(11, "or is GONE");
        due("at first", thrown(3, 0, 1, 0), 0);
        due("later", thrown(0, 0, 3, 0, 2, 0), 1);
        StarfishWatch x = after(cells(0, 1), throwers(1), mend(0, 5, 1), mend(0, 4, 1), plan(0, 0, 0, 1, 0));
        due("UP and GONE", x.flung(0, 0), NOT);
        x.mend(0, 5, 0);
        due("UP, not GONE", x.flung(0, 1), 3);
        sentence(11, "STARS that are UP may be in a PLAN");
        due("all UP", after(cells(0, 1), throwers(1), up(0, 1), plan(0, 1, 0, 0, 0)).flung(0, 1), 3);
    }

    private static void planHolds() {
        sentence(11, "10 twos at most");
        StarfishWatch x = after(TEN, throwers(0), plan(0, ALL_TEN));
        for (int k = 0; k < 10; k++) due("flung(0, " + k + ")", x.flung(0, k), 3 * k);
        due("flung(0, 10)", x.flung(0, 10), NOT);
        due("flung(0, -1)", x.flung(0, -1), 30);
        x.row(0, 0, 60);
        for (int i = 0; i < 20; i++) x.put(0, i, ALL_TEN[19 - i - (i % 2 == 0 ? 1 : -1)]);
        due("a longer row", x.flung(0, 9), 27);
        due("a longer row", x.flung(0, 10), NOT);
        sentence(11, "a shorter ROW behind a longer one");
        bytes(x, 0, 0, 0, 1, 0);
        due("flung(0, 1)", x.flung(0, 1), 3);
        due("flung(0, 2)", x.flung(0, 2), NOT);
        due("flung(0, -1)", x.flung(0, -1), 6);
        x.row(0, 0, 0);
        due("flung(0, 0)", x.flung(0, 0), NOT);
        due("flung(0, -1)", x.flung(0, -1), 0);
        sentence(11, "the first STAR and the last, the first THROWER and the last");
        StarfishWatch y = after(FULL_SKY, mend(3, 7, 9), plan(0, 9, 3, 0, 3, 5, 0));
        due("flung(0, 1)", y.flung(0, 1), 9);
        due("flung(0, 2)", y.flung(0, 2), 0);
        due("flung(0, -1)", y.flung(0, -1), 18);
    }

    private static void flungMinutes() {
        sentence(11, "each THROWER throws his own one behind the other, SPEED minutes each");
        StarfishWatch x = after(TEN, throwers(0, 0), mend(0, 7, 1), mend(1, 7, 9), plan(0, 0, 1, 1, 0, 2, 1, 3, 0, 4, 0, 5, 1));
        int[] at = {0, 0, 9, 1, 2, 18};
        for (int k = 0; k < 6; k++) due("flung(0, " + k + ")", x.flung(0, k), at[k]);
        due("all", x.flung(0, -1), 27);
        sentence(11, "from MINUTE on");
        x.mend(0, 9, 100);
        for (int k = 0; k < 6; k++) due("flung(0, " + k + ")", x.flung(0, k), 100 + at[k]);
        due("all", x.flung(0, -1), 127);
        sentence(11, "in the minute in which he begins it (999 at most)");
        StarfishWatch y = after(TEN, throwers(0), plan(0, 0, 0, 1, 0, 2, 0));
        int[][] due = {{993, 993, 996, 999}, {994, 994, 997, 999}, {996, 996, 999, 999}, {997, 997, 999, 999}, {998, 998, 999, 999}, {999, 999, 999, 999}};
        for (int[] d : due) {
            y.mend(0, 9, d[0]);
            for (int k = 0; k < 3; k++) due("flung(0, " + k + ") from " + d[0], y.flung(0, k), d[k + 1]);
        }
        sentence(12, "m: the minute in which it is thrown (999 at most)");
        y.mend(0, 9, 993);
        tell(y, "m=993?1;m=996?6;m=999?4;12");
        due("likely above", y.likely(0, 0), 1);
        due("likely below", y.likely(0, 1), 72);
        y.mend(0, 9, 999);
        due("likely above, all by 999", y.likely(0, 0), 1);
        due("likely below, all by 999", y.likely(0, 1), 27);
        due("mean", y.mean(0, 0), 1);
    }

    private static void flungDone() {
        sentence(11, "when all is done: the latest end of a throw");
        StarfishWatch x = after(TEN, throwers(0, 0, 0), mend(0, 7, 9), mend(1, 7, 2), mend(2, 7, 4));
        bytes(x, 0, 0, 0, 1, 1);
        due("the one ahead ends later", x.flung(0, -1), 9);
        bytes(x, 0, 0, 1, 1, 0);
        due("the one behind ends later", x.flung(0, -1), 9);
        bytes(x, 0, 0, 1, 1, 1, 2, 1, 3, 1, 4, 1, 5, 0);
        due("the middle one", x.flung(0, -1), 10);
        bytes(x, 0, 0, 2, 1, 2, 2, 1, 3, 1, 4, 1, 5, 1);
        due("both alike", x.flung(0, -1), 8);
        sentence(11, "an end may be later than 999");
        for (int m : new int[] {989, 990, 991, 999}) {
            x.mend(0, 9, m);
            due("from " + m, x.flung(0, -1), m + 8);
        }
        StarfishWatch y = after(TEN, throwers(0), mend(0, 7, 9), mend(0, 9, 999), plan(0, ALL_TEN));
        due("the latest of all", y.flung(0, -1), 1089);
        sentence(11, "MINUTE, if there are none");
        for (int m : new int[] {0, 1, 999}) {
            y.mend(0, 9, m);
            y.row(1, 0, 0);
            due("a row of none", y.flung(1, -1), m);
            bytes(y, 1, 0);
            due("a row of one", y.flung(1, -1), m);
            bytes(y, 1, -1, 0, 0, 0);
            due("none", y.flung(1, -1), m);
        }
    }

    private static void flungAnswers() {
        Calls two = x -> { FULL_SKY.on(x); bytes(x, 0, 0, 0, 1, 0); };
        sentence(11, "NOT: there is no k-th");
        due("flung(0, 0)", after(two).flung(0, 0), 0);
        due("flung(0, 1)", after(two).flung(0, 1), 3);
        for (int k : new int[] {2, 3, 9, 10, 11, 60, MAX}) refused("flung(0, " + k + ")", NOT, x -> x.flung(0, k), IN_USE, plan(0, 0, 0, 2, 0));
        sentence(11, "k from -1 on, else BAD");
        for (int k : new int[] {-2, -3, MIN}) refused("flung(0, " + k + ")", BAD, x -> x.flung(0, k), IN_USE);
        sentence(11, "SHELVES 0 .. 5, else BAD");
        for (int s = 0; s < 6; s++) due("shelf " + s, after(two, plan(s, 1, 0)).flung(s, -1), 3);
        for (int s : new int[] {-1, 6, MIN, MAX}) refused("flung(" + s + ", 0)", BAD, x -> x.flung(s, 0), IN_USE);
        sentence(11, "-11; -12 (no ROW of bytes)");
        refused("nothing there", MISSING, x -> x.flung(5, 0), IN_USE);
        refused("nothing there any more", MISSING, x -> x.flung(0, 0), IN_USE, x -> x.keep(0, -1));
        refused("a BODY", UNLIKE, x -> x.flung(3, 0), IN_USE);
        for (int sort = 1; sort < 5; sort++) {
            int of = sort;
            refused("sort " + sort, UNLIKE, x -> x.flung(5, -1), IN_USE, x -> x.row(5, of, 4));
        }
        sentence(11, "BAD ahead of NOT, -11, -12; no plan, no k-th");
        refused("k -2 of nothing", BAD, x -> x.flung(5, -2), IN_USE);
        refused("k -2 of a BODY", BAD, x -> x.flung(3, -2), IN_USE);
        refused("shelf 6, k 99", BAD, x -> x.flung(6, 99), IN_USE);
        refused("k 99 of nothing", MISSING, x -> x.flung(5, 99), IN_USE);
        refused("k 99 of a BODY", UNLIKE, x -> x.flung(3, 99), IN_USE);
    }

    private static void fraction(String what, StarfishWatch x, boolean likely, long above, long below) {
        due(what + ", above", likely ? x.likely(0, 0) : x.mean(0, 0), above);
        due(what + ", below", likely ? x.likely(0, 1) : x.mean(0, 1), below);
    }

    /** One throw, and ten, of 0 .. 12 of twelve: each fraction in lowest terms. */
    private static void fractions(boolean likely, long[][] ten) {
        long[][] one = {{0, 1}, {1, 12}, {1, 6}, {1, 4}, {1, 3}, {5, 12}, {1, 2}, {7, 12}, {2, 3}, {3, 4}, {5, 6}, {11, 12}, {1, 1}};
        StarfishWatch x = after(TEN, throwers(0), plan(0, 5, 0)), y = after(TEN, throwers(0), plan(0, ALL_TEN));
        for (int v = 0; v <= 12; v++) {
            tell(x, "" + v);
            tell(y, "" + v);
            fraction("one throw of " + v, x, likely, one[v][0], one[v][1]);
            fraction("ten throws of " + v, y, likely, ten[v][0], ten[v][1]);
        }
    }

    private static void likely() {
        sentence(12, "how likely all of it STICKS: a fraction in lowest terms, beyond an int, too");
        fractions(true, new long[][] {{0, 1}, {1, 61917364224L}, {1, 60466176L}, {1, 1048576}, {1, 59049}, {9765625, 61917364224L}, {1, 1024},
            {282475249, 61917364224L}, {1024, 59049}, {59049, 1048576}, {9765625, 60466176}, {25937424601L, 61917364224L}, {1, 1}});
        StarfishWatch y = after(TEN, throwers(0), plan(0, ALL_TEN));
        sentence(12, "0 by 1, where what is above the line is 0");
        tell(y, "m=0?0;11");
        fraction("the first", y, true, 0, 1);
        tell(y, "m=27?0;11");
        fraction("the last", y, true, 0, 1);
        sentence(12, "Of no throws: likely 1 by 1");
        y.row(0, 0, 0);
        fraction("a row of none", y, true, 1, 1);
        bytes(y, 0, 10, 0);
        fraction("no STAR", y, true, 1, 1);
        sentence(12, "STARS that are UP as the others");
        StarfishWatch z = after(TEN, throwers(0), up(0), law("4"), plan(0, 0, 0, 1, 0));
        fraction("one UP, one not", z, true, 1, 9);
        z.pocket(0);
        fraction("GONE ends it", z, true, 1, 1);
    }

    private static void mean() {
        sentence(13, "how many STICK on the mean: a fraction in lowest terms");
        fractions(false, new long[][] {{0, 1}, {5, 6}, {5, 3}, {5, 2}, {10, 3}, {25, 6}, {5, 1}, {35, 6}, {20, 3}, {15, 2}, {25, 3}, {55, 6}, {10, 1}});
        StarfishWatch y = after(TEN, throwers(0), plan(0, ALL_TEN));
        sentence(13, "each by its own minute");
        tell(y, "m=0?0;m=27?5;12");
        fraction("0, eight of 12, 5", y, false, 101, 12);
        sentence(13, "Of no throws: the mean 0 by 1");
        y.row(0, 0, 0);
        fraction("a row of none", y, false, 0, 1);
        bytes(y, 0, 0, 4);
        fraction("no THROWER", y, false, 0, 1);
    }

    private static void partsRefused() {
        for (int which = 0; which < 2; which++) {
            boolean likely = which == 0;
            int of = likely ? 12 : 13;
            String name = likely ? "likely" : "mean";
            sentence(of, "part 0 above, 1 below the line, else BAD, as Long.MIN_VALUE");
            for (int p : new int[] {-1, 2, MIN, MAX}) refused(name + "(0, " + p + ")", NO_LONG, x -> ask(x, likely, 0, p), IN_USE);
            sentence(of, "SHELVES 0 .. 5, else BAD, as Long.MIN_VALUE");
            for (int s = 0; s < 6; s++) due(name + "(" + s + ", 1)", ask(after(plan(s)), likely, s, 1), 1);
            for (int s : new int[] {-1, 6, MIN, MAX}) refused(name + "(" + s + ", 0)", NO_LONG, x -> ask(x, likely, s, 0), IN_USE);
            sentence(of, "-11, -12 (no ROW of bytes), as Long.MIN_VALUE");
            for (int p = 0; p < 2; p++) {
                int part = p;
                refused(name + " of nothing", NO_LONG, x -> ask(x, likely, 5, part), IN_USE);
                refused(name + " of a BODY", NO_LONG, x -> ask(x, likely, 3, part), IN_USE);
                for (int sort = 1; sort < 5; sort++) {
                    int s = sort;
                    refused(name + " of sort " + sort, NO_LONG, x -> ask(x, likely, 5, part), IN_USE, x -> x.row(5, s, 4));
                }
            }
        }
    }

    private static long ask(StarfishWatch x, boolean likely, int shelf, int part) {
        return likely ? x.likely(shelf, part) : x.mean(shelf, part);
    }

    private static void dealtStates() {
        sentence(14, "no THROWERS: NOT, ahead of STATE");
        for (int k : new int[] {-1, 0, 5, 99, MAX}) {
            refused("dealt(" + k + ") of none", NOT, x -> x.dealt(k));
            refused("dealt(" + k + ") of ten", NOT, x -> x.dealt(k), TEN);
        }
        sentence(14, "6 at most, else STATE, ahead of NOT: no k-th");
        due("six", after(cells(0, 1, 2, 3, 4, 5), throwers(0)).dealt(-1), 18);
        for (int k : new int[] {-1, 0, 6, 7, 99, MAX}) {
            refused("dealt(" + k + ") of seven", STATE, x -> x.dealt(k), cells(0, 1, 2, 3, 4, 5, 6), throwers(0));
            refused("dealt(" + k + ") of ten", STATE, x -> x.dealt(k), TEN, throwers(0));
        }
        sentence(14, "STARS neither UP nor GONE");
        due("seven, of whom one is UP", after(cells(0, 1, 2, 3, 4, 5, 6), throwers(0), up(3)).dealt(-1), 18);
        due("seven, of whom one is GONE", after(cells(0, 1, 2, 3, 4, 5, 6), throwers(0), mend(3, 5, 1)).dealt(-1), 18);
        due("seven, of whom one is UP and GONE", after(cells(0, 1, 2, 3, 4, 5, 6), throwers(0), up(3), mend(3, 5, 1)).dealt(-1), 18);
        sentence(14, "k from -1 on, else BAD, ahead of NOT and STATE");
        for (int k : new int[] {-2, -3, MIN}) {
            refused("dealt(" + k + ")", BAD, x -> x.dealt(k), IN_USE);
            refused("dealt(" + k + ") of nobody", BAD, x -> x.dealt(k));
            refused("dealt(" + k + ") of ten", BAD, x -> x.dealt(k), FULL_SKY);
        }
        sentence(14, "NOT: no k-th");
        StarfishWatch six = after(cells(0, 1, 2, 3, 4, 5), throwers(0));
        due("the sixth", six.dealt(5), 0);
        for (int k : new int[] {6, 7, MAX}) refused("dealt(" + k + ") of six", NOT, x -> x.dealt(k), cells(0, 1, 2, 3, 4, 5), throwers(0));
        refused("dealt(1) of one", NOT, x -> x.dealt(1), IN_USE, mend(0, 4, 0), mend(2, 4, 1));
        sentence(14, "nobody waits: behind 0 minutes");
        due("no STARS", after(throwers(0)).dealt(-1), 0);
        refused("no STARS, no first", NOT, x -> x.dealt(0), throwers(0));
        due("all UP", after(cells(0, 1), throwers(0), up(0, 1)).dealt(-1), 0);
    }

    /** Six stars at most, dealt to throwers of these speeds. */
    private static void deal(int stars, int[] speeds, int minutes, int... who) {
        StarfishWatch x = after();
        for (int i = 0; i < stars; i++) x.star(i);
        for (int i = 0; i < speeds.length; i++) {
            x.thrower(i);
            x.mend(i, 7, speeds[i]);
        }
        due(stars + " dealt, minutes", x.dealt(-1), minutes);
        for (int k = 0; k < stars; k++) due(stars + " dealt, dealt(" + k + ")", x.dealt(k), who[k]);
        due(stars + " dealt, no more", x.dealt(stars), NOT);
        x.mend(0, 9, 999);
        due(stars + " dealt, whatever MINUTE it is", x.dealt(-1), minutes);
    }

    private static void dealtWho() {
        sentence(14, "so that all is done first: behind how many minutes");
        deal(1, new int[] {1}, 1, 0);
        deal(1, new int[] {9}, 9, 0);
        deal(6, new int[] {9}, 54, 0, 0, 0, 0, 0, 0);
        deal(6, new int[] {1, 9, 9, 9}, 6, 0, 0, 0, 0, 0, 0);
        deal(6, new int[] {9, 9, 9, 1}, 6, 3, 3, 3, 3, 3, 3);
        deal(6, new int[] {2, 9, 9, 9}, 9, 0, 0, 0, 0, 1, 2);
        deal(6, new int[] {9, 9, 9, 9}, 18, 0, 0, 1, 1, 2, 2);
        deal(5, new int[] {9, 9, 9, 9}, 18, 0, 0, 1, 1, 2);
        deal(4, new int[] {9, 9, 9, 9}, 9, 0, 1, 2, 3);
        deal(6, new int[] {3, 2}, 8, 0, 0, 1, 1, 1, 1);
        deal(5, new int[] {3, 2}, 6, 0, 0, 1, 1, 1);
        deal(4, new int[] {3, 2}, 6, 0, 0, 1, 1);
        deal(3, new int[] {3, 2}, 4, 0, 1, 1);
        sentence(14, "of like ones the first by numbers");
        deal(1, new int[] {5, 5}, 5, 0);
        deal(2, new int[] {5, 5}, 5, 0, 1);
        deal(3, new int[] {5, 5}, 10, 0, 0, 1);
        deal(1, new int[] {6, 5, 5}, 5, 1);
        deal(2, new int[] {4, 2}, 4, 0, 1);
        deal(3, new int[] {1, 3}, 3, 0, 0, 0);
        sentence(14, "who throws the k-th of them (by numbers)");
        StarfishWatch x = after(TEN, throwers(0, 0), mend(0, 7, 2), mend(1, 7, 4), up(0, 2, 3, 4), mend(6, 5, 1), mend(8, 5, 1));
        due("of 1, 5, 7, 9", x.dealt(-1), 6);
        int[] who = {0, 0, 0, 1};
        for (int k = 0; k < 4; k++) due("dealt(" + k + ")", x.dealt(k), who[k]);
    }

    private static Calls star(int bright, int sticky, int arms, int dawn) {
        return x -> {
            x.star(0);
            x.mend(0, 1, bright);
            x.mend(0, 2, sticky);
            x.mend(0, 3, arms);
            x.mend(0, 10, dawn);
            x.mend(0, 4, 1);
        };
    }

    private static void drops() {
        sentence(15, "drops in minute DAWN, and 3 times STICKY, and ARMS, less BRIGHT");
        due("at first", after(cells(0), up(0)).drops(0), 495);
        due("DAWN alone", after(star(1, 0, 1, 77)).drops(0), 77);
        due("STICKY", after(star(1, 9, 1, 77)).drops(0), 104);
        due("ARMS", after(star(1, 0, 9, 77)).drops(0), 85);
        due("BRIGHT", after(star(9, 0, 1, 77)).drops(0), 69);
        due("the latest", after(star(1, 9, 9, 999)).drops(0), 1034);
        sentence(15, "(0 at least)");
        due("less than 0", after(star(9, 0, 0, 0)).drops(0), 0);
        due("just less than 0", after(star(9, 0, 0, 8)).drops(0), 0);
        due("just 0", after(star(9, 0, 0, 9)).drops(0), 0);
        due("just more", after(star(9, 0, 0, 10)).drops(0), 1);
        sentence(15, "NOT: it is not UP");
        refused("drops(0)", NOT, x -> x.drops(0), IN_USE, mend(0, 4, 0));
        refused("drops(1) in a pocket", NOT, x -> x.drops(1), IN_USE);
        due("UP and GONE", after(cells(0), up(0), mend(0, 5, 1)).drops(0), 495);
        sentence(15, "BAD: no such STAR");
        for (int s : new int[] {-1, 3, 10, MIN, MAX}) refused("drops(" + s + ")", BAD, x -> x.drops(s), IN_USE);
        refused("drops(10) of ten", BAD, x -> x.drops(10), TEN);
        due("drops(9) of ten", after(TEN, up(9)).drops(9), 495);
        refused("drops(0) of none", BAD, x -> x.drops(0));
    }

    private static void upBy() {
        sentence(16, "FIRST to drop (of like ones the least)");
        due("all alike", after(TEN, up(9, 5, 3)).upBy(-1), 3);
        due("the last one sooner", after(TEN, up(9, 5, 3), mend(9, 1, 6)).upBy(-1), 9);
        due("the first one later", after(TEN, up(9, 5, 3), mend(3, 1, 4)).upBy(-1), 5);
        due("the first one sooner", after(TEN, up(9, 5, 3), mend(3, 1, 6)).upBy(-1), 3);
        due("alike by 0 at least", after(cells(0, 1), up(0, 1), mend(0, 10, 0), mend(1, 3, 0), mend(0, 3, 1), mend(0, 2, 0), mend(1, 2, 0)).upBy(-1), 0);
        sentence(16, "FIRST: of those that are UP");
        due("one not UP is sooner", after(TEN, up(7), mend(2, 1, 9)).upBy(-1), 7);
        refused("none is UP", NOT, x -> x.upBy(-1), TEN);
        refused("no STARS", NOT, x -> x.upBy(-1));
        sentence(16, "how many are UP still in a told minute (those that drop then are not)");
        StarfishWatch x = after(TEN, up(0, 1, 2, 3), mend(1, 1, 4), mend(2, 1, 4), mend(3, 1, 9));
        int[][] due = {{0, 4}, {490, 4}, {491, 3}, {494, 3}, {495, 2}, {496, 0}, {497, 0}, {1999, 0}};
        for (int[] d : due) due("upBy(" + d[0] + ")", x.upBy(d[0]), d[1]);
        due("one that drops in 0", after(star(9, 0, 0, 9)).upBy(0), 0);
        due("one that drops in 1", after(star(9, 0, 0, 10)).upBy(0), 1);
        due("the latest one ahead", after(star(1, 9, 9, 999)).upBy(1033), 1);
        due("the latest one then", after(star(1, 9, 9, 999)).upBy(1034), 0);
        due("none is UP", after(TEN).upBy(0), 0);
        due("of those UP now, whatever MINUTE it is", after(cells(0), up(0), mend(0, 9, 999)).upBy(494), 1);
        sentence(16, "a minute (0 .. 1999), -1, else BAD");
        for (int m : new int[] {-2, -3, 2000, 2001, MIN, MAX}) refused("upBy(" + m + ")", BAD, y -> y.upBy(m), IN_USE);
        refused("upBy(-2) of none", BAD, y -> y.upBy(-2));
    }

    private static void lies() {
        sentence(17, "3 times X, and STICKY, by 24 the remainder");
        for (int cell : new int[] {0, 1, 6, 7, 8, 15, 40, 47}) {
            for (int s = 0; s < 10; s++) {
                int at = 3 * (cell % 8) + s;
                due("CELL " + cell + ", STICKY " + s, after(cells(cell), mend(0, 2, s)).lies(0), at < 24 ? at : at - 24);
            }
        }
        sentence(17, "SAND 0 .. 23");
        due("23", after(cells(7), mend(0, 2, 2)).lies(0), 23);
        due("0", after(cells(7), mend(0, 2, 3)).lies(0), 0);
        due("6", after(cells(7), mend(0, 2, 9)).lies(0), 6);
        sentence(17, "UP or not, GONE or not");
        due("UP", after(cells(3), up(0)).lies(0), 14);
        due("GONE", after(cells(3), x -> x.pocket(0)).lies(0), 14);
        sentence(17, "BAD: no such STAR");
        due("lies(9)", after(TEN).lies(9), 8);
        for (int s : new int[] {-1, 3, 10, MIN, MAX}) refused("lies(" + s + ")", BAD, x -> x.lies(s), IN_USE);
        refused("lies(10) of ten", BAD, x -> x.lies(10), TEN);
        refused("lies(0) of none", BAD, x -> x.lies(0));
    }

    /** Stars that will lie on these places of the sand, 3 * X and STICKY, as bright as told. */
    private static Calls sand(int... placeAndBright) {
        return x -> {
            for (int i = 0; i < placeAndBright.length; i += 2) {
                int star = i / 2, place = placeAndBright[i];
                x.star(place / 3 + 8 * (star % 6));
                x.mend(star, 2, place % 3);
                x.mend(star, 1, placeAndBright[i + 1]);
                x.mend(star, 4, 1);
            }
        };
    }

    private static void walkPlaces() {
        sentence(18, "his first place, too");
        for (int p : new int[] {0, 1, 12, 22, 23}) {
            StarfishWatch x = after(sand(p, 4));
            due("place " + p + ", t 0", x.walk(p, 0, 0), 4);
            due("place " + p + ", t 0, left", x.walk(p, 0, 1), 0);
            if (p > 0) due("just right of it, t 0", x.walk(p - 1, 0, 0), 0);
            if (p < 23) due("just left of it, t 0", x.walk(p + 1, 0, 0), 0);
            if (p > 0) due("just right of it, t 1", x.walk(p - 1, 1, 0), 4);
            if (p < 23) due("just left of it, t 1", x.walk(p + 1, 1, 0), 4);
            if (p < 23) due("just left of it, t 1, left", x.walk(p + 1, 1, 1), 1);
        }
        sentence(18, "t (0 .. 40) steps of one");
        StarfishWatch x = after(sand(0, 3, 23, 4));
        due("to 23 in 23", x.walk(0, 23, 0), 7);
        due("to 23 in 22", x.walk(0, 22, 0), 3);
        due("to 0 in 23", x.walk(23, 23, 0), 7);
        due("to 0 in 22", x.walk(23, 22, 0), 4);
        due("both ends from 8 in 31", x.walk(8, 31, 0), 7);
        due("both ends from 8 in 30", x.walk(8, 30, 0), 4);
        due("both ends from 15 in 31", x.walk(15, 31, 0), 7);
        due("both ends from 15 in 30", x.walk(15, 30, 0), 4);
        due("both ends from 11 in 34", x.walk(11, 34, 0), 7);
        due("both ends from 11 in 33", x.walk(11, 33, 0), 4);
        due("both ends in 40", x.walk(12, 40, 0), 7);
        sentence(18, "BRIGHT together of STARS UP now");
        StarfishWatch y = after(sand(5, 9, 5, 9, 5, 9, 6, 1));
        due("three in one place", y.walk(5, 0, 0), 27);
        due("and one", y.walk(5, 1, 0), 28);
        y.mend(1, 4, 0);
        due("not one that is not UP", y.walk(5, 1, 0), 19);
        y.pocket(0);
        due("not one in a pocket", y.walk(5, 1, 0), 10);
        y.mend(2, 10, 0);
        due("whenever it drops", y.walk(5, 1, 0), 10);
        sentence(18, "none is UP: 0");
        due("how much", after(TEN).walk(12, 40, 0), 0);
        due("how far left", after(TEN).walk(12, 40, 1), 0);
    }

    private static void walkEnds() {
        sentence(18, "the ends do not meet");
        due("from 0 to 23", after(sand(23, 5)).walk(0, 1, 0), 0);
        due("from 23 to 0", after(sand(0, 5)).walk(23, 1, 0), 0);
        due("from 0 back by 22", after(sand(23, 5)).walk(0, 22, 0), 0);
        due("from 2 to 22 leftward", after(sand(22, 5)).walk(2, 19, 0), 0);
        due("by 24 the remainder lies at 0", after(cells(7), mend(0, 2, 3), up(0)).walk(0, 0, 0), 5);
        sentence(18, "left, then right: what lies left is passed twice");
        StarfishWatch x = after(sand(9, 1, 13, 2));
        due("one left, three right in 5", x.walk(10, 5, 0), 3);
        due("one left, three right in 4", x.walk(10, 4, 0), 2);
        due("three left, one right in 5", x.walk(12, 5, 0), 3);
        due("three left, one right in 4", x.walk(12, 4, 0), 2);
        due("two left, two right in 6", x.walk(11, 6, 0), 3);
        due("two left, two right in 5", x.walk(11, 5, 0), 2);
        sentence(18, "the most: not the nearest, not all");
        StarfishWatch y = after(sand(2, 4, 3, 4, 14, 9));
        due("two left or one right", y.walk(8, 6, 0), 9);
        due("two left of less", after(sand(2, 5, 3, 5, 14, 9)).walk(8, 6, 0), 10);
    }

    private static void walkLeft() {
        sentence(18, "how far left he comes at the most: no farther than it takes");
        StarfishWatch x = after(sand(4, 5));
        due("three steps", x.walk(7, 3, 1), 3);
        due("three of many", x.walk(7, 40, 1), 3);
        due("it is too far", x.walk(7, 2, 1), 0);
        due("it is right of him", x.walk(1, 40, 1), 0);
        due("from 23", after(sand(0, 5)).walk(23, 40, 1), 23);
        sentence(18, "of like ones the least");
        due("left or right, alike", after(sand(4, 5, 10, 5)).walk(7, 3, 1), 0);
        due("left is more", after(sand(4, 6, 10, 5)).walk(7, 3, 1), 3);
        due("a nearer one left, alike with a farther one", after(sand(4, 5, 6, 5, 10, 9)).walk(7, 5, 1), 1);
        due("left one and right one, or left two", after(sand(5, 5, 6, 5, 8, 5)).walk(7, 2, 1), 2);
        due("left two, or left one and right one", after(sand(5, 5, 6, 5, 8, 5)).walk(7, 3, 1), 1);
        due("all of them", after(sand(5, 5, 6, 5, 8, 5)).walk(7, 4, 1), 2);
        due("he stands and has it", after(sand(7, 5)).walk(7, 40, 1), 0);
    }

    private static void walkRefused() {
        sentence(18, "SAND 0 .. 23, t (0 .. 40), what 0, 1, else BAD");
        for (int p : new int[] {0, 23}) {
            for (int t : new int[] {0, 40}) {
                for (int w = 0; w < 2; w++) due("walk(" + p + ", " + t + ", " + w + ")", after().walk(p, t, w), 0);
            }
        }
        for (int w = 0; w < 2; w++) {
            int what = w;
            for (int p : new int[] {-1, 24, MIN, MAX}) refused("walk(" + p + ", 9, " + w + ")", BAD, x -> x.walk(p, 9, what), IN_USE);
            for (int t : new int[] {-1, 41, MIN, MAX}) refused("walk(0, " + t + ", " + w + ")", BAD, x -> x.walk(0, t, what), IN_USE);
        }
        for (int w : new int[] {-1, 2, MIN, MAX}) refused("walk(0, 0, " + w + ")", BAD, x -> x.walk(0, 0, w), IN_USE);
    }

    private static void asked() {
        sentence(18, "who asks changes nothing");
        Calls row = plan(0, 0, 1, 2, 0);
        unchanged("flung(0, -1)", after(IN_USE, row).flung(0, -1), x -> x.flung(0, -1), IN_USE, row);
        unchanged("likely(0, 1)", after(IN_USE, row).likely(0, 1), x -> x.likely(0, 1), IN_USE, row);
        unchanged("mean(0, 1)", after(IN_USE, row).mean(0, 1), x -> x.mean(0, 1), IN_USE, row);
        unchanged("dealt(-1)", after(IN_USE).dealt(-1), x -> x.dealt(-1), IN_USE);
        unchanged("drops(2)", after(IN_USE).drops(2), x -> x.drops(2), IN_USE);
        unchanged("upBy(-1)", after(IN_USE).upBy(-1), x -> x.upBy(-1), IN_USE);
        unchanged("upBy(9)", after(IN_USE).upBy(9), x -> x.upBy(9), IN_USE);
        unchanged("lies(0)", after(IN_USE).lies(0), x -> x.lies(0), IN_USE);
        unchanged("walk(9, 9, 0)", after(IN_USE).walk(9, 9, 0), x -> x.walk(9, 9, 0), IN_USE);
    }
}
