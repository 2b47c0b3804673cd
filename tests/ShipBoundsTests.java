/** Boundary cases of promises 19 to 24: ships, who came home, patterns, turns, nights by draws. */
public final class ShipBoundsTests extends Bounds {
    private static final Calls TEN = cells(0, 1, 2, 3, 4, 5, 6, 7, 8, 9);

    public static void main(String[] args) {
        steer();
        fewest();
        safe();
        fewestNone();
        homeSets();
        homeEnds();
        patternMoves();
        patternEnds();
        mirrored();
        rowsRefused();
        turnsOnce();
        turnsAtHand();
        turnsMore();
        drawnSticks();
        drawnNights();
        drawnRefused();
        asked();
        end();
    }

    private static void steer() {
        sentence(19, "one STEERS, if some STAR it NEEDS is UP");
        for (int s = 0; s < 10; s++) {
            StarfishWatch x = after(TEN, ships(1 << s, 1023, 1023 - (1 << s)), up(s));
            due("steer() with " + s + " UP", x.steer(), 3);
        }
        due("none UP", after(TEN, ships(1023)).steer(), 0);
        due("all UP", after(TEN, ships(1, 2, 4, 512, 1023, 3), up(0, 1, 2, 3, 4, 5, 6, 7, 8, 9)).steer(), 63);
        due("some of what it NEEDS", after(TEN, ships(7), up(2)).steer(), 1);
        sentence(19, "STARS, there or not: one that is not there is not UP");
        due("the next one", after(cells(0, 1), ships(4, 512), up(0, 1)).steer(), 0);
        due("when it came", after(cells(0, 1), ships(4, 512), up(0, 1), cells(2), up(2)).steer(), 1);
        sentence(19, "no SHIPS, no STARS: 0");
        due("no SHIPS", after(TEN, up(0)).steer(), 0);
        due("no STARS", after(ships(1023)).steer(), 0);
        sentence(19, "now: behind what dropped, went in a pocket, was mended");
        StarfishWatch x = after(cells(0, 1, 2), ships(1, 2, 4), up(0, 1, 2), mend(0, 1, 6));
        x.pass(494);
        due("one dropped", x.steer(), 6);
        x.pocket(1);
        due("one in a pocket", x.steer(), 4);
        x.mend(2, 4, 0);
        due("one mended", x.steer(), 0);
        x.mend(1, 4, 1);
        due("UP and GONE", x.steer(), 2);
    }

    private static void fewestIs(StarfishWatch x, int what, int many, int bits) {
        due("fewest(" + what + ")", x.fewest(what), many);
        due("fewest(" + (what + 1) + ")", x.fewest(what + 1), bits);
    }

    private static void fewest() {
        sentence(20, "the fewest STARS by which all SHIPS would STEER: how many, which");
        fewestIs(after(TEN, ships(1)), 0, 1, 1);
        fewestIs(after(TEN, ships(512)), 0, 1, 512);
        fewestIs(after(TEN, ships(1, 2, 4, 8, 16, 32)), 0, 6, 63);
        fewestIs(after(TEN, ships(16, 32, 64, 128, 256, 512)), 0, 6, 1008);
        fewestIs(after(TEN, ships(3, 5, 9, 513)), 0, 1, 1);
        fewestIs(after(TEN, ships(3, 5, 9, 512)), 0, 2, 513);
        sentence(20, "bits; of like ones the least");
        fewestIs(after(TEN, ships(1023)), 0, 1, 1);
        fewestIs(after(TEN, ships(1022)), 0, 1, 2);
        fewestIs(after(TEN, ships(3, 12)), 0, 2, 5);
        fewestIs(after(TEN, ships(768, 6)), 0, 2, 258);
        sentence(20, "fewest ahead of least");
        fewestIs(after(TEN, ships(513, 514)), 0, 1, 512);
        fewestIs(after(TEN, ships(9, 10, 12)), 0, 1, 8);
        sentence(20, "STARS that are there");
        fewestIs(after(cells(0, 1), ships(6)), 0, 1, 2);
        fewestIs(after(cells(0, 1, 2), ships(6)), 0, 1, 2);
        fewestIs(after(cells(0), ships(2)), 0, NOT, NOT);
        fewestIs(after(cells(0, 1), ships(2)), 0, 1, 2);
        fewestIs(after(ships(1023)), 0, NOT, NOT);
        sentence(20, "not GONE; UP or not");
        fewestIs(after(cells(0, 1, 2), ships(7), x -> x.pocket(0)), 0, 1, 2);
        fewestIs(after(cells(0, 1, 2), ships(7), up(2)), 0, 1, 1);
        fewestIs(after(cells(0, 1, 2), ships(7), up(0), mend(0, 5, 1)), 0, 1, 2);
        fewestIs(after(cells(0), ships(1), x -> x.pocket(0)), 0, NOT, NOT);
        sentence(20, "if just they were UP: each SHIP by one of them");
        fewestIs(after(TEN, ships(1, 2), up(0, 1)), 0, 2, 3);
    }

    private static void safe() {
        sentence(20, "SAFE: so that they still do, whichever one of these dropped");
        fewestIs(after(TEN, ships(3)), 2, 2, 3);
        fewestIs(after(TEN, ships(1023)), 2, 2, 3);
        fewestIs(after(TEN, ships(768)), 2, 2, 768);
        fewestIs(after(TEN, ships(3, 12, 48, 192, 768)), 2, 10, 1023);
        fewestIs(after(TEN, ships(7, 11)), 2, 2, 3);
        fewestIs(after(TEN, ships(7, 14)), 2, 2, 6);
        fewestIs(after(TEN, ships(7, 28)), 2, 3, 13);
        sentence(20, "by SAFE each SHIP NEEDS two of them");
        fewestIs(after(TEN, ships(1)), 2, NOT, NOT);
        fewestIs(after(TEN, ships(3, 4)), 2, NOT, NOT);
        fewestIs(after(TEN, ships(1)), 0, 1, 1);
        fewestIs(after(cells(0, 1), ships(3)), 2, 2, 3);
        fewestIs(after(cells(0), ships(3)), 2, NOT, NOT);
        sentence(20, "SAFE by those not GONE");
        fewestIs(after(cells(0, 1, 2), ships(7), x -> x.pocket(1)), 2, 2, 5);
        fewestIs(after(cells(0, 1, 2), ships(7), x -> x.pocket(1), x -> x.pocket(2)), 2, NOT, NOT);
    }

    private static void fewestNone() {
        sentence(20, "FEWEST, SAFE without SHIPS: none, bits 0");
        for (int what = 0; what < 4; what++) {
            due("no STARS, fewest(" + what + ")", after().fewest(what), 0);
            due("ten STARS, fewest(" + what + ")", after(TEN).fewest(what), 0);
            due("all GONE, fewest(" + what + ")", after(cells(1), mend(0, 5, 1)).fewest(what), 0);
        }
        sentence(20, "NOT");
        for (int what = 0; what < 4; what++) {
            int w = what;
            refused("fewest(" + what + ")", NOT, x -> x.fewest(w), IN_USE, FULL_SKY, mend(0, 8, 2), mend(1, 5, 1));
        }
        sentence(20, "what 0 .. 3, else BAD, ahead of NOT");
        for (int w : new int[] {-1, 4, MIN, MAX}) {
            refused("fewest(" + w + ")", BAD, x -> x.fewest(w), IN_USE);
            refused("fewest(" + w + ") of none", BAD, x -> x.fewest(w));
            refused("fewest(" + w + "), where there is none", BAD, x -> x.fewest(w), ships(1));
        }
    }

    private static void homeIs(StarfishWatch x, int sets, int wrong) {
        due("home(2, 0)", x.home(2, 0), sets);
        due("home(2, 1)", x.home(2, 1), wrong);
    }

    private static void homeSets() {
        Calls three = x -> { cells(0, 1, 2).on(x); ships(3, 6).on(x); up(0, 1, 2).on(x); };
        sentence(21, "one came home just if some STAR it NEEDS was UP and not wrong");
        homeIs(after(three, plan(2, 0, 1, 1, 1)), 5, 0);
        homeIs(after(three, plan(2, 0, 0, 1, 1)), 1, 3);
        homeIs(after(three, plan(2, 0, 1, 1, 0)), 1, 6);
        homeIs(after(three, plan(2, 0, 0, 1, 0)), 1, 7);
        homeIs(after(three, plan(2, 0, 0)), 2, 3);
        homeIs(after(three, plan(2, 0, 1)), 6, 0);
        sentence(21, "by how many sets of wrong ones (of those UP): the set of none, of all, too");
        homeIs(after(three, plan(2)), 8, 0);
        homeIs(after(TEN, up(0, 1, 2, 3, 4, 5, 6, 7, 8, 9), plan(2)), 1024, 0);
        homeIs(after(TEN, plan(2)), 1, 0);
        homeIs(after(plan(2)), 1, 0);
        homeIs(after(TEN, ships(1023), up(0, 1, 2, 3, 4, 5, 6, 7, 8, 9), plan(2, 0, 0)), 1, 1023);
        homeIs(after(TEN, ships(1023), up(0, 1, 2, 3, 4, 5, 6, 7, 8, 9), plan(2, 0, 1)), 1023, 0);
        homeIs(after(TEN, ships(512), up(0, 9), plan(2, 0, 0)), 2, 512);
        homeIs(after(TEN, ships(3), up(0), plan(2, 0, 0)), 1, 1);
        homeIs(after(cells(0, 1), ships(1), up(0, 1), x -> x.pocket(1), plan(2, 0, 0)), 1, 1);
        homeIs(after(cells(0, 1), ships(2), up(0, 1), mend(1, 5, 1), plan(2, 0, 0)), 2, 2);
        sentence(21, "the fewest wrong ones (of like ones the least)");
        homeIs(after(TEN, ships(514, 513), up(0, 1, 9), plan(2, 0, 1, 1, 0)), 1, 513);
        homeIs(after(TEN, ships(7), up(0, 1, 2, 3), plan(2, 0, 0)), 2, 7);
        homeIs(after(TEN, ships(3, 12, 10), up(0, 1, 2, 3), plan(2, 2, 0, 0, 1)), 2, 10);
        sentence(21, "NOT: by no set");
        homeIs(after(three, plan(2, 0, 0, 0, 1)), 0, NOT);
        homeIs(after(TEN, ships(1), plan(2, 0, 1)), 0, NOT);
        homeIs(after(ships(1), plan(2, 0, 1)), 0, NOT);
        homeIs(after(ships(1), plan(2, 0, 0)), 1, 0);
        refused("home(5, 1)", NOT, x -> x.home(5, 1), IN_USE, plan(5, 0, 0, 0, 1));
    }

    /** Whether the last two of the row, that none can fulfil, counts: no set is left then. */
    private static void counts(String what, boolean does, int... row) {
        homeIs(after(cells(0), ships(1, 2), up(0), plan(2, row)), does ? 0 : 2, does ? NOT : 0);
    }

    private static void homeEnds() {
        sentence(21, "by twos a SHIP, and whether it came home (0, 1); it ends with what is no such");
        counts("alone", true, 1, 1);
        for (int s : new int[] {-1, 2, 6, 127, 128}) counts("behind SHIP " + s, false, s, 0, 1, 1);
        for (int c : new int[] {-1, 2, 127, 128}) counts("behind came home " + c, false, 0, c, 1, 1);
        counts("behind a SHIP told twice", true, 1, 0, 1, 0, 1, 1);
        sentence(21, "it ends with the row, within a two, too");
        counts("none", false);
        counts("one byte", false, 1);
        homeIs(after(cells(0), ships(1, 2), up(0), plan(2, 0, 0, 1)), 1, 1);
        sentence(21, "12 twos at most");
        for (int n = 1; n <= 14; n++) {
            int[] row = new int[2 * n];
            for (int i = 0; i < n; i++) row[2 * i] = 1;
            row[2 * n - 1] = 1;
            counts("the two of number " + n, n <= 12, row);
        }
        sentence(21, "a shorter ROW behind a longer one");
        StarfishWatch x = after(cells(0), ships(1, 2), up(0), plan(2, 0, 1, 1, 1));
        homeIs(x, 0, NOT);
        bytes(x, 2, 0, 1);
        homeIs(x, 1, 0);
        bytes(x, 2);
        homeIs(x, 2, 0);
        sentence(21, "SHIPS 0 .. 5, STARS 0 .. 9");
        homeIs(after(TEN, ships(1, 1, 1, 1, 1, 512), up(0, 9), plan(2, 5, 0, 0, 1)), 1, 512);
        homeIs(after(TEN, ships(1, 1, 1, 1, 1), up(0, 9), plan(2, 5, 0, 0, 0)), 4, 0);
    }

    private static void patternIs(StarfishWatch x, int what, int many, int first) {
        due("pattern(2, " + what + ")", x.pattern(2, what), many);
        due("pattern(2, " + (what + 1) + ")", x.pattern(2, what + 1), first);
    }

    private static int code(int x, int y) { return 15 * (y + 5) + x + 7; }

    private static void patternMoves() {
        sentence(22, "by X -7 .. 7, Y -5 .. 5");
        for (int from : new int[] {0, 7, 20, 40, 47}) {
            for (int to : new int[] {0, 7, 20, 40, 47}) {
                patternIs(after(cells(to), plan(2, from)), 0, 1, code(to % 8 - from % 8, to / 8 - from / 8));
            }
        }
        sentence(22, "15 times Y and 5 together, and X and 7 together");
        due("47 to 0", after(cells(0), plan(2, 47)).pattern(2, 1), 0);
        due("0 to 47", after(cells(47), plan(2, 0)).pattern(2, 1), 164);
        due("not moved", after(cells(9), plan(2, 9)).pattern(2, 1), 82);
        sentence(22, "the first (by Y, then by X)");
        patternIs(after(cells(15, 16), plan(2, 20)), 0, 2, code(3, -1));
        patternIs(after(cells(16, 15), plan(2, 20)), 0, 2, code(3, -1));
        patternIs(after(cells(21, 19), plan(2, 20)), 0, 2, code(-1, 0));
        sentence(22, "all of them come on CELLS of STARS that are there (UP or not, GONE or not)");
        patternIs(after(cells(0, 1, 2), plan(2, 10, 11)), 0, 2, code(-2, -1));
        patternIs(after(cells(0, 2), plan(2, 10, 11)), 0, 0, NOT);
        patternIs(after(cells(0, 1), up(0), x -> x.pocket(1), plan(2, 10, 11)), 0, 1, code(-2, -1));
        patternIs(after(cells(0, 1), mend(1, 0, 8), plan(2, 10, 11)), 0, 0, NOT);
        patternIs(after(cells(0, 1), mend(1, 0, 8), plan(2, 10, 18)), 0, 1, code(-2, -1));
        patternIs(after(plan(2, 10)), 0, 0, NOT);
        sentence(22, "a CELL off THE SKY does not");
        patternIs(after(cells(7, 8), plan(2, 0, 1)), 0, 0, NOT);
        patternIs(after(cells(7, 8), plan(2, 1, 0)), 0, 0, NOT);
        patternIs(after(cells(0, 15), plan(2, 7, 6)), 0, 0, NOT);
        patternIs(after(cells(40), plan(2, 32, 40)), 0, 0, NOT);
        patternIs(after(cells(7), plan(2, 15, 7)), 0, 0, NOT);
        patternIs(after(cells(0, 7), plan(2, 8, 15)), 0, 1, code(0, -1));
        patternIs(after(cells(0, 40), plan(2, 7, 47)), 0, 1, code(-7, 0));
    }

    private static void patternEnds() {
        sentence(22, "CELLS: it ends with what is none");
        patternIs(after(cells(0, 1), plan(2, 0, 1)), 0, 1, 82);
        for (int c : new int[] {-1, 48, 127, 128}) {
            patternIs(after(cells(0, 1), plan(2, 0, c, 30)), 0, 2, 82);
            patternIs(after(cells(0, 1), plan(2, c, 30)), 0, 165, 0);
        }
        for (int c : new int[] {0, 47}) patternIs(after(cells(9), plan(2, 9, c)), 0, 0, NOT);
        sentence(22, "PATTERN without CELLS: all 165 moves");
        patternIs(after(plan(2)), 0, 165, 0);
        patternIs(after(plan(2)), 2, 165, 0);
        patternIs(after(TEN, plan(2, 48)), 2, 165, 0);
        sentence(22, "a shorter ROW behind a longer one");
        StarfishWatch x = after(cells(0, 1), plan(2, 0, 1, 2));
        patternIs(x, 0, 0, NOT);
        bytes(x, 2, 0, 1);
        patternIs(x, 0, 1, 82);
        bytes(x, 2, 0);
        patternIs(x, 0, 2, 82);
        bytes(x, 2);
        patternIs(x, 0, 165, 0);
        sentence(22, "8 at most");
        for (int n = 1; n <= 10; n++) {
            int[] row = new int[n];
            row[n - 1] = n == 1 ? 0 : 30;
            patternIs(after(cells(0, 1), plan(2, row)), 0, n == 1 || n > 8 ? 2 : 0, n == 1 || n > 8 ? 82 : NOT);
        }
        patternIs(after(TEN, plan(2, 0, 1, 2, 3, 4, 5, 6, 7)), 0, 1, 82);
        sentence(22, "a CELL told twice is one");
        patternIs(after(cells(0, 1), plan(2, 0, 0)), 0, 2, 82);
    }

    private static void mirrored() {
        sentence(22, "MIRRORED: the same with X and 7 less X changed ahead");
        for (int c = 0; c < 48; c++) patternIs(after(cells(c), plan(2, c)), 2, 1, code(c % 8 - (7 - c % 8), 0));
        Calls corner = cells(0, 1, 8);
        patternIs(after(corner, plan(2, 0, 1, 9)), 2, 1, code(-6, 0));
        patternIs(after(corner, plan(2, 0, 1, 9)), 0, 0, NOT);
        patternIs(after(corner, plan(2, 0, 1, 8)), 2, 0, NOT);
        patternIs(after(cells(0, 7), plan(2, 0, 7)), 2, 1, 82);
        refused("pattern(5, 3)", NOT, x -> x.pattern(5, 3), IN_USE, plan(5, 0, 1, 8, 9));
        refused("pattern(5, 1)", NOT, x -> x.pattern(5, 1), IN_USE, plan(5, 0, 1, 8, 9));
    }

    private static int ask(StarfishWatch x, boolean home, int shelf, int what) {
        return home ? x.home(shelf, what) : x.pattern(shelf, what);
    }

    private static void rowsRefused() {
        for (int which = 0; which < 2; which++) {
            boolean home = which == 0;
            int of = home ? 21 : 22, most = home ? 1 : 3;
            String name = home ? "home" : "pattern";
            sentence(of, "what 0 .. " + most + ", else BAD");
            for (int w = 0; w <= most; w++) due(name + "(2, " + w + ")", ask(after(plan(2)), home, 2, w) >= 0 ? 1 : 0, 1);
            for (int w : new int[] {-1, most + 1, MIN, MAX}) refused(name + "(0, " + w + ")", BAD, x -> ask(x, home, 0, w), IN_USE);
            sentence(of, "SHELVES 0 .. 5, else BAD");
            for (int s = 0; s < 6; s++) due(name + "(" + s + ", 0)", ask(after(plan(s)), home, s, 0), home ? 1 : 165);
            for (int s : new int[] {-1, 6, MIN, MAX}) refused(name + "(" + s + ", 0)", BAD, x -> ask(x, home, s, 0), IN_USE);
            sentence(of, "-11; -12 (no ROW of bytes)");
            for (int w = 0; w <= most; w++) {
                int what = w;
                refused(name + " of nothing", MISSING, x -> ask(x, home, 5, what), IN_USE);
                refused(name + " of a BODY", UNLIKE, x -> ask(x, home, 3, what), IN_USE);
                for (int sort = 1; sort < 5; sort++) {
                    int s = sort;
                    refused(name + " of sort " + sort, UNLIKE, x -> ask(x, home, 5, what), IN_USE, x -> x.row(5, s, 4));
                }
            }
            sentence(of, "BAD ahead of -11, -12");
            refused("what " + (most + 1) + " of nothing", BAD, x -> ask(x, home, 5, most + 1), IN_USE);
            refused("what -1 of a BODY", BAD, x -> ask(x, home, 3, -1), IN_USE);
        }
    }

    private static void turnsAre(StarfishWatch x, int n, int many, int first) {
        due("byTurns(" + n + ", 0)", x.byTurns(n, 0), many);
        due("byTurns(" + n + ", 1)", x.byTurns(n, 1), first);
    }

    private static void turnsOnce() {
        sentence(23, "he puts up one STAR: his first (10: nothing; of like ones nothing first, then the least)");
        turnsAre(after(TEN, ships(1)), 1, 1, 0);
        turnsAre(after(TEN, ships(512)), 1, 1, 9);
        turnsAre(after(TEN, ships(6)), 1, 1, 1);
        turnsAre(after(TEN, ships(6, 4)), 1, 2, 2);
        turnsAre(after(TEN, ships(3, 12)), 1, 1, 0);
        turnsAre(after(TEN, ships(3), up(1)), 1, 1, 10);
        turnsAre(after(TEN, ships(3, 4), up(1)), 1, 2, 2);
        turnsAre(after(cells(0), ships(2)), 1, 0, 10);
        sentence(23, "no SHIPS, no STARS");
        for (int n = 1; n <= 4; n++) {
            turnsAre(after(), n, 0, 10);
            turnsAre(after(TEN), n, 0, 10);
            turnsAre(after(ships(1023)), n, 0, 10);
        }
        sentence(23, "n (1 .. 4), what 0, 1, else BAD");
        for (int n : new int[] {0, -1, 5, MIN, MAX}) {
            for (int w = 0; w < 2; w++) {
                int what = w;
                refused("byTurns(" + n + ", " + w + ")", BAD, x -> x.byTurns(n, what), IN_USE);
            }
        }
        for (int w : new int[] {-1, 2, MIN, MAX}) refused("byTurns(1, " + w + ")", BAD, x -> x.byTurns(1, w), IN_USE);
    }

    private static void turnsAtHand() {
        sentence(23, "one that is neither UP nor GONE");
        turnsAre(after(cells(0), ships(1), x -> x.pocket(0)), 1, 0, 10);
        turnsAre(after(cells(0, 1), ships(3), x -> x.pocket(0)), 1, 1, 1);
        turnsAre(after(cells(0), ships(1), x -> x.pocket(0)), 3, 0, 10);
        turnsAre(after(cells(0), ships(1), up(0)), 1, 1, 10);
        sentence(23, "the map takes down one that is UP, one that is GONE, too: he puts up none that is GONE");
        turnsAre(after(cells(0), ships(1), up(0), mend(0, 5, 1)), 1, 1, 10);
        turnsAre(after(cells(0), ships(1), up(0), mend(0, 5, 1)), 2, 0, 10);
        turnsAre(after(cells(0), ships(1), up(0), mend(0, 5, 1)), 3, 0, 10);
        turnsAre(after(cells(0), ships(1), up(0)), 2, 0, 10);
        turnsAre(after(cells(0), ships(1), up(0)), 3, 1, 10);
        turnsAre(after(cells(0), ships(1), up(0)), 4, 0, 10);
    }

    private static void turnsMore() {
        sentence(23, "the thrower first, then the map: n times in all");
        Calls two = x -> { cells(0, 1).on(x); ships(1, 2).on(x); };
        turnsAre(after(two), 1, 1, 0);
        turnsAre(after(two), 2, 0, 10);
        turnsAre(after(two), 3, 1, 10);
        turnsAre(after(two), 4, 0, 10);
        turnsAre(after(two, up(0)), 1, 2, 1);
        turnsAre(after(two, up(0)), 2, 1, 1);
        turnsAre(after(two, up(0)), 3, 2, 1);
        turnsAre(after(two, up(0)), 4, 1, 1);
        sentence(23, "the map fewest: or nothing");
        Calls both = x -> { cells(0, 1, 2).on(x); ships(3, 3, 4).on(x); };
        turnsAre(after(both, up(0, 1, 2)), 2, 2, 10);
        turnsAre(after(both, up(0, 2)), 2, 2, 1);
        turnsAre(after(both, up(0)), 2, 2, 1);
        turnsAre(after(both), 2, 0, 10);
        turnsAre(after(both), 3, 2, 10);
        turnsAre(after(both), 4, 0, 10);
        sentence(23, "if both do their best: four turns");
        turnsAre(after(cells(0, 1, 2), ships(1, 2, 4), up(0, 1)), 4, 2, 2);
        turnsAre(after(cells(0, 1, 2, 3), ships(3, 5, 9), up(1)), 4, 1, 0);
        turnsAre(after(TEN, ships(3, 12, 48, 192, 768, 1023), up(1, 3)), 4, 3, 4);
        sentence(23, "nobody throws indeed");
        StarfishWatch x = after(two);
        x.byTurns(4, 0);
        due("count(1)", x.count(1), 0);
    }

    private static int next(int z) { return z * 1103515245 + 12345; }

    private static int of(int z) { return (int) ((z & 0xFFFFFFFFL) >> 8) % 12; }

    private static void drawnSticks() {
        sentence(24, "it STICKS, if (z >>> 8) % 12 is below of how many of twelve");
        for (int seed : new int[] {0, 1, -1, 12345, MIN, MAX, VOID, 1 << 30, -999}) {
            int drawn = of(next(seed));
            for (int v = 0; v <= 12; v++) {
                StarfishWatch x = after(cells(0), throwers(0), plan(2, 0, 0), law("" + v));
                due("seed " + seed + " of " + v, x.drawn(seed, 2, 1, 0), drawn < v ? 1 : 0);
            }
        }
        sentence(24, "z (an int): a negative one is shifted as >>> does");
        int negative = 0;
        for (int seed = 0; seed < 40; seed++) {
            int z = next(seed);
            if (z >= 0) continue;
            negative++;
            StarfishWatch x = after(cells(0), throwers(0), plan(2, 0, 0), law("" + of(z)));
            due("seed " + seed + ", just not", x.drawn(seed, 2, 1, 0), 0);
            tell(x, "" + (of(z) + 1));
            due("seed " + seed + ", just so", x.drawn(seed, 2, 1, 0), 1);
        }
        due("negative ones", negative > 9 ? 1 : 0, 1);
        sentence(24, "ahead of each throw, one behind the other, night behind night");
        StarfishWatch x = after(cells(0, 1, 2), throwers(0), up(2), ships(1, 2, 3, 4), law("6"), plan(2, 0, 0, 1, 0, 2, 0));
        for (int n = 1; n <= 30; n++) {
            int z = 77, ships = 0, first = 0, second = 0;
            for (int night = 0; night < n; night++) {
                z = next(z);
                int a = of(z) < 6 ? 1 : 0;
                z = next(z);
                int b = of(z) < 6 ? 1 : 0;
                z = next(z);
                first += a;
                second += b;
                ships += a + b + (a | b) + 1;
            }
            due("drawn(77, 2, " + n + ", -1)", x.drawn(77, 2, n, -1), ships);
            due("drawn(77, 2, " + n + ", 0)", x.drawn(77, 2, n, 0), first);
            due("drawn(77, 2, " + n + ", 1)", x.drawn(77, 2, n, 1), second);
            due("drawn(77, 2, " + n + ", 2)", x.drawn(77, 2, n, 2), n);
        }
        sentence(24, "by each one's own minute");
        StarfishWatch y = after(cells(0, 1, 2), throwers(0), law("m=0?12;m=6?12;0"), plan(2, 0, 0, 1, 0, 2, 0));
        int[] often = {9, 0, 9};
        for (int s = 0; s < 3; s++) due("drawn(5, 2, 9, " + s + ")", y.drawn(5, 2, 9, s), often[s]);
    }

    private static void drawnNights() {
        sentence(24, "n nights (1 .. 30), from now");
        StarfishWatch x = after(cells(0, 1, 2), throwers(0), ships(1, 2, 7), plan(2, 0, 0), law("12"));
        due("one night", x.drawn(1, 2, 1, -1), 2);
        due("thirty nights", x.drawn(1, 2, 30, -1), 60);
        due("thirty nights, the STAR", x.drawn(1, 2, 30, 0), 30);
        due("thirty nights, another STAR", x.drawn(1, 2, 30, 1), 0);
        sentence(24, "one that is UP already stays, in the PLAN or not");
        tell(x, "0");
        x.mend(0, 4, 1);
        due("in the PLAN", x.drawn(1, 2, 30, 0), 30);
        x.mend(1, 4, 1);
        due("not in the PLAN", x.drawn(1, 2, 30, 1), 30);
        due("SHIPS", x.drawn(1, 2, 30, -1), 90);
        sentence(24, "of no throws: as it is now");
        x.row(2, 0, 0);
        due("SHIPS", x.drawn(1, 2, 30, -1), 90);
        due("a STAR", x.drawn(1, 2, 30, 2), 0);
        due("no SHIPS", after(plan(2)).drawn(1, 2, 30, -1), 0);
        sentence(24, "one that is GONE ends the PLAN");
        StarfishWatch y = after(cells(0, 1, 2), throwers(0), law("12"), z -> z.pocket(1), plan(2, 0, 0, 1, 0, 2, 0));
        int[] often = {3, 0, 0};
        for (int s = 0; s < 3; s++) due("drawn(5, 2, 3, " + s + ")", y.drawn(5, 2, 3, s), often[s]);
        sentence(24, "all nights together: at most 180");
        StarfishWatch all = after(FULL_SKY, law("12"), plan(2, 0, 0, 1, 0, 2, 0, 3, 0, 4, 0, 5, 0));
        due("drawn(-7, 2, 30, -1)", all.drawn(-7, 2, 30, -1), 180);
    }

    private static void drawnRefused() {
        Calls row = plan(0, 0, 1, 2, 0);
        sentence(24, "n nights (1 .. 30), else BAD");
        for (int n : new int[] {0, -1, 31, MIN, MAX}) refused("drawn(1, 0, " + n + ", -1)", BAD, x -> x.drawn(1, 0, n, -1), IN_USE, row);
        sentence(24, "star -1, or a told STAR, else BAD");
        due("the last", after(IN_USE, row).drawn(1, 0, 1, 2) == BAD ? 1 : 0, 0);
        for (int s : new int[] {-2, 3, 10, MIN, MAX}) refused("drawn(1, 0, 1, " + s + ")", BAD, x -> x.drawn(1, 0, 1, s), IN_USE, row);
        due("the last of ten", after(FULL_SKY, row).drawn(1, 0, 1, 9), 0);
        refused("drawn(1, 0, 1, 10) of ten", BAD, x -> x.drawn(1, 0, 1, 10), FULL_SKY, row);
        refused("drawn(1, 0, 1, 0) of none", BAD, x -> x.drawn(1, 0, 1, 0), row);
        sentence(24, "SHELVES 0 .. 5, else BAD");
        for (int s = 0; s < 6; s++) due("shelf " + s, after(FULL_SKY, plan(s, 0, 0), law("12")).drawn(1, s, 2, 0), 2);
        for (int s : new int[] {-1, 6, MIN, MAX}) refused("drawn(1, " + s + ", 1, -1)", BAD, x -> x.drawn(1, s, 1, -1), IN_USE, row);
        sentence(24, "-11; -12 (no ROW of bytes)");
        refused("nothing", MISSING, x -> x.drawn(1, 5, 1, -1), IN_USE);
        refused("a BODY", UNLIKE, x -> x.drawn(1, 3, 1, -1), IN_USE);
        for (int sort = 1; sort < 5; sort++) {
            int s = sort;
            refused("sort " + sort, UNLIKE, x -> x.drawn(1, 5, 1, 0), IN_USE, x -> x.row(5, s, 4));
        }
        sentence(24, "BAD ahead of -11, -12");
        refused("n 0 of nothing", BAD, x -> x.drawn(1, 5, 0, -1), IN_USE);
        refused("n 31 of a BODY", BAD, x -> x.drawn(1, 3, 31, -1), IN_USE);
        refused("STAR 3 of nothing", BAD, x -> x.drawn(1, 5, 1, 3), IN_USE);
        refused("STAR -2 of a BODY", BAD, x -> x.drawn(1, 3, 1, -2), IN_USE);
    }

    private static void asked() {
        sentence(24, "who asks changes nothing: no SEED, none UP, no LED");
        Calls row = plan(0, 0, 1, 2, 0);
        for (int s : new int[] {-1, 0, 2}) unchanged("drawn(9, 0, 30, " + s + ")", after(IN_USE, row).drawn(9, 0, 30, s), x -> x.drawn(9, 0, 30, s), IN_USE, row);
        sentence(23, "who asks changes nothing");
        for (int n = 1; n <= 4; n++) {
            int turns = n;
            unchanged("byTurns(" + n + ", 1)", after(IN_USE).byTurns(n, 1), x -> x.byTurns(turns, 1), IN_USE);
        }
        unchanged("steer()", after(IN_USE).steer(), x -> x.steer(), IN_USE);
        for (int what = 0; what < 4; what++) {
            int w = what;
            unchanged("fewest(" + w + ")", after(IN_USE).fewest(w), x -> x.fewest(w), IN_USE);
            unchanged("pattern(0, " + w + ")", after(IN_USE).pattern(0, w), x -> x.pattern(0, w), IN_USE);
        }
        unchanged("home(0, 0)", after(IN_USE).home(0, 0), x -> x.home(0, 0), IN_USE);
        unchanged("home(0, 1)", after(IN_USE).home(0, 1), x -> x.home(0, 1), IN_USE);
    }
}
