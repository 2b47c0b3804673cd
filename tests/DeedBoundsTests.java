/** Boundary cases of promises 25 to 32: deeds, what is led of them, the image, changes undone and done again. */
public final class DeedBoundsTests extends Bounds {
    public static void main(String[] args) {
        flingSticks();
        flingMinute();
        flingRefused();
        passDrops();
        passHeld();
        passRefused();
        pocket();
        led();
        ledHeld();
        image();
        back();
        backSince();
        undoEach();
        undoNone();
        undoCells();
        redo();
        redoCells();
        forty();
        deedsAreNone();
        end();
    }

    private static int next(int z) { return z * 1103515245 + 12345; }

    private static int of(int z) { return (int) ((z & 0xFFFFFFFFL) >> 8) % 12; }

    private static void flingSticks() {
        sentence(25, "1 it STICKS, 0: (z >>> 8) % 12 is below of how many of twelve");
        for (int seed : new int[] {0, 1, -1, 4, 12345, MIN, MAX, VOID, 1 << 30, -999}) {
            int z = next(seed);
            for (int v = 0; v <= 12; v++) {
                StarfishWatch x = after(cells(9, 1), throwers(0), law("" + v), mend(0, 11, seed));
                int stuck = of(z) < v ? 1 : 0;
                due("seed " + seed + " of " + v, x.fling(10), stuck);
                due("UP", x.of(1, 4), stuck);
                due("UP of the other", x.of(0, 4), 0);
                due("SEED goes on as z does", x.of(0, 11), z);
                due("stuck", x.led(1), stuck);
                due("throws", x.led(0), 1);
            }
        }
        sentence(25, "One throws a STAR: st, 10 times a STAR, and a THROWER");
        for (int st = 0; st < 100; st++) {
            if (st % 10 > 3) continue;
            StarfishWatch y = after(FULL_SKY, law("12"), mend(0, 7, 1), mend(1, 7, 2), mend(3, 7, 4));
            due("fling(" + st + ")", y.fling(st), 1);
            due("MINUTE behind fling(" + st + ")", y.of(0, 9), st % 10 + 1);
            for (int s = 0; s < 10; s++) due("UP of " + s + " behind fling(" + st + ")", y.of(s, 4), s == st / 10 ? 1 : 0);
        }
        sentence(25, "SEED goes on, throw behind throw");
        StarfishWatch x = after(cells(0), throwers(0), law("0"));
        int z = 1;
        for (int i = 0; i < 40; i++) {
            z = next(z);
            due("fling", x.fling(0), 0);
            due("SEED", x.of(0, 11), z);
        }
    }

    private static void flingMinute() {
        sentence(25, "MINUTE is more by SPEED");
        for (int speed : new int[] {1, 3, 9}) {
            StarfishWatch x = after(cells(0), throwers(1, 2), law("0"), mend(1, 7, speed));
            for (int i = 1; i <= 5; i++) {
                x.fling(1);
                due("MINUTE", x.of(0, 9), i * speed);
            }
            x.fling(0);
            due("MINUTE by the other", x.of(0, 9), 5 * speed + 3);
        }
        sentence(25, "MINUTE (0 .. 999): it stays at 999");
        int[][] from = {{990, 9, 999}, {991, 9, 999}, {989, 9, 998}, {999, 1, 999}, {998, 1, 999}, {997, 1, 998}};
        for (int[] f : from) {
            StarfishWatch x = after(cells(0), throwers(1), mend(0, 7, f[1]), mend(0, 9, f[0]));
            x.fling(0);
            due("MINUTE from " + f[0] + " by " + f[1], x.of(0, 9), f[2]);
            due("led(4)", x.led(4), f[1]);
        }
        sentence(25, "m: the minute in which it is thrown, not in which it ends");
        StarfishWatch x = after(cells(0, 1), throwers(1), law("m=5?12;0"), mend(0, 9, 5));
        due("in 5", x.fling(0), 1);
        due("in 8", x.fling(10), 0);
        sentence(25, "By fling() nothing drops");
        StarfishWatch y = after(cells(0, 1, 2), throwers(1), up(0, 1), mend(0, 10, 0), mend(0, 9, 500));
        y.fling(20);
        due("UP", y.of(0, 4) + y.of(1, 4), 2);
        due("dropped", y.led(2), 0);
        StarfishWatch z = after(cells(0, 1), throwers(1), law("12"), mend(0, 10, 0));
        due("one that would drop at once", z.fling(0), 1);
        due("it is UP", z.of(0, 4), 1);
    }

    private static void flingRefused() {
        sentence(25, "STATE: it is UP or GONE");
        refused("it is UP", STATE, x -> x.fling(20), IN_USE);
        refused("it is GONE", STATE, x -> x.fling(10), IN_USE);
        refused("it is UP and GONE", STATE, x -> x.fling(11), IN_USE, mend(1, 4, 1));
        refused("it stuck just now", STATE, x -> x.fling(0), cells(0), throwers(0), law("12"), x -> x.fling(0));
        due("down again", after(cells(0), throwers(0), law("12"), x -> x.fling(0), mend(0, 4, 0)).fling(0), 1);
        due("out of the pocket again", after(cells(0), throwers(0), law("12"), x -> x.pocket(0), mend(0, 5, 0)).fling(0), 1);
        due("one that did not stick", after(cells(0), throwers(0), law("0"), x -> x.fling(0), law("12")).fling(0), 1);
        sentence(25, "BAD: no such STAR, THROWER; ahead of STATE");
        for (int st : new int[] {-1, -10, 2, 9, 12, 19, 22, 30, 31, 100, MIN, MAX}) refused("fling(" + st + ")", BAD, x -> x.fling(st), IN_USE);
        refused("fling(0) of none", BAD, x -> x.fling(0));
        refused("fling(0) by none", BAD, x -> x.fling(0), cells(0), up(0));
        due("the last ones", after(FULL_SKY, law("12")).fling(93), 1);
        refused("behind the last STAR", BAD, x -> x.fling(100), FULL_SKY);
        refused("behind the last THROWER", BAD, x -> x.fling(94), FULL_SKY);
    }

    /** Drops in the minute told: 0 .. 999. */
    private static Calls dropping(int star, int minute) {
        return x -> {
            x.mend(star, 2, 0);
            x.mend(star, 3, 1);
            x.mend(star, 1, 1);
            x.mend(0, 10, minute);
            x.mend(star, 4, 1);
        };
    }

    private static void passDrops() {
        sentence(26, "STARS that drop till then are not UP");
        int[][] all = {{100, 0, 99, 0}, {100, 0, 100, 1}, {100, 0, 101, 1}, {100, 99, 1, 1}, {100, 98, 1, 0}, {100, 100, 1, 1}, {100, 500, 1, 1}, {0, 0, 1, 1}, {1, 0, 1, 1}, {2, 0, 1, 0}};
        for (int[] a : all) {
            StarfishWatch x = after(cells(0), dropping(0, a[0]), mend(0, 9, a[1]));
            due("drops()", x.drops(0), a[0]);
            due("it drops in " + a[0] + ", from " + a[1] + ", pass(" + a[2] + ")", x.pass(a[2]), a[3]);
            due("UP", x.of(0, 4), 1 - a[3]);
            due("MINUTE", x.of(0, 9), a[1] + a[2]);
            due("dropped", x.led(2), a[3]);
        }
        sentence(26, "how many drop: of those UP");
        StarfishWatch x = after(cells(0, 1, 2, 3, 4, 5, 6, 7, 8, 9), up(0, 1, 2, 3, 4, 5, 6, 7, 8), mend(3, 1, 6), mend(4, 1, 4));
        x.pocket(8);
        due("one sooner", x.pass(494), 1);
        due("six more", x.pass(1), 6);
        due("one later", x.pass(1), 1);
        due("none", x.pass(1), 0);
        due("dropped", x.led(2), 8);
        due("UP", x.count(1), 0);
        due("GONE stays", x.of(8, 5), 1);
        sentence(26, "all of ten drop");
        due("ten", after(cells(0, 1, 2, 3, 4, 5, 6, 7, 8, 9), up(0, 1, 2, 3, 4, 5, 6, 7, 8, 9)).pass(495), 10);
        due("none is UP", after(cells(0, 1)).pass(999), 0);
        due("no STARS", after().pass(999), 0);
        sentence(26, "one that dropped may be thrown again, and drops at once");
        StarfishWatch y = after(cells(0), throwers(0), law("12"), up(0), mend(0, 10, 0));
        due("pass(50)", y.pass(50), 1);
        due("fling(0)", y.fling(0), 1);
        due("pass(1)", y.pass(1), 1);
        due("led(2)", y.led(2), 2);
        sentence(26, "UP and GONE: it drops, too");
        due("pass(495)", after(cells(0), up(0), mend(0, 5, 1)).pass(495), 1);
    }

    private static void passHeld() {
        sentence(26, "Minutes (1 .. 999); MINUTE stays at 999");
        int[][] all = {{0, 1, 1}, {0, 998, 998}, {0, 999, 999}, {1, 998, 999}, {1, 999, 999}, {998, 1, 999}, {999, 1, 999}, {999, 999, 999}};
        for (int[] a : all) {
            StarfishWatch x = after(mend(0, 9, a[0]));
            due("pass(" + a[1] + ") from " + a[0], x.pass(a[1]), 0);
            due("MINUTE", x.of(0, 9), a[2]);
            due("led(4), as told", x.led(4), a[1]);
        }
        sentence(26, "in 999 drops what drops till 999, and no more");
        due("in 999", after(cells(0), dropping(0, 999), mend(0, 9, 998)).pass(1), 1);
        due("in 999, at 999", after(cells(0), dropping(0, 999), mend(0, 9, 999)).pass(1), 1);
        StarfishWatch x = after(cells(0), dropping(0, 999), mend(0, 1, 1), mend(0, 3, 2));
        due("drops()", x.drops(0), 1000);
        due("in 1000", x.pass(999), 0);
        due("in 1000, behind more", x.pass(999), 0);
        due("UP", x.of(0, 4), 1);
        due("led(4)", x.led(4), 1998);
    }

    private static void passRefused() {
        sentence(26, "Minutes (1 .. 999), else BAD");
        for (int m : new int[] {0, -1, 1000, 1001, MIN, MAX}) refused("pass(" + m + ")", BAD, x -> x.pass(m), IN_USE);
        sentence(26, "it changes no more than UP, MINUTE, LED");
        StarfishWatch x = after(IN_USE), y = after(IN_USE);
        x.pass(999);
        for (int n = 0; n < 3; n++) {
            for (int what : new int[] {0, 1, 2, 3, 5}) due("of(" + n + ", " + what + ")", x.of(n, what), y.of(n, what));
        }
        for (int what : new int[] {10, 11}) due("of(0, " + what + ")", x.of(0, what), y.of(0, what));
        for (int i : new int[] {0, 1, 3}) due("led(" + i + ")", x.led(i), y.led(i));
        due("count(3)", x.count(3), y.count(3));
    }

    private static void pocket() {
        sentence(27, "whether it was UP; GONE, not UP then");
        for (int was = 0; was < 2; was++) {
            StarfishWatch x = after(cells(0, 1, 2), mend(1, 4, was));
            due("pocket(1)", x.pocket(1), was);
            due("UP", x.of(1, 4), 0);
            due("GONE", x.of(1, 5), 1);
            due("GONE of the others", x.of(0, 5) + x.of(2, 5), 0);
            due("led(3)", x.led(3), 1);
            due("dropped", x.led(2), 0);
            due("MINUTE", x.of(0, 9), 0);
            due("count(3)", x.count(3), was);
        }
        sentence(27, "STATE: it is GONE");
        refused("by pocket()", STATE, x -> x.pocket(1), IN_USE);
        refused("by mend()", STATE, x -> x.pocket(0), IN_USE, mend(0, 5, 1));
        refused("by mend(), though UP", STATE, x -> x.pocket(2), IN_USE, mend(2, 5, 1));
        due("out of it again", after(IN_USE, mend(1, 5, 0)).pocket(1), 0);
        sentence(27, "BAD: no such STAR");
        for (int s : new int[] {-1, 3, 10, MIN, MAX}) refused("pocket(" + s + ")", BAD, x -> x.pocket(s), IN_USE);
        refused("pocket(0) of none", BAD, x -> x.pocket(0));
        due("pocket(9)", after(FULL_SKY).pocket(9), 0);
        refused("pocket(10) of ten", BAD, x -> x.pocket(10), FULL_SKY);
    }

    private static void led() {
        sentence(28, "throws (what 0), stuck (1), dropped (2), in pockets (3), minutes (4)");
        StarfishWatch x = after(cells(0, 1, 2, 3), throwers(0, 0), mend(1, 7, 8), law("f=0?12;0"), mend(1, 6, 1));
        int[][] steps = {{1, 1, 0, 0, 3}, {2, 1, 0, 0, 11}, {3, 2, 0, 0, 14}, {3, 2, 0, 1, 14}, {3, 2, 1, 1, 594}, {3, 2, 1, 2, 594}};
        x.fling(0);
        ledIs(x, steps[0]);
        x.fling(11);
        ledIs(x, steps[1]);
        x.fling(20);
        ledIs(x, steps[2]);
        x.pocket(0);
        ledIs(x, steps[3]);
        x.pass(580);
        ledIs(x, steps[4]);
        x.pocket(3);
        ledIs(x, steps[5]);
        sentence(28, "what is refused is not led");
        x.fling(30);
        x.fling(99);
        x.pass(0);
        x.pass(1000);
        x.pocket(3);
        x.pocket(9);
        ledIs(x, steps[5]);
        sentence(28, "what is mended, undone, drawn is not led");
        x.mend(0, 4, 1);
        x.mend(0, 5, 0);
        x.mend(0, 5, 1);
        x.mend(0, 9, 999);
        x.undo();
        x.redo();
        bytes(x, 0, 0, 0, 1, 0);
        x.drawn(1, 0, 9, -1);
        ledIs(x, steps[5]);
        sentence(28, "what 0 .. 4, else BAD");
        for (int w : new int[] {-1, 5, MIN, MAX}) refused("led(" + w + ")", BAD, y -> y.led(w), IN_USE);
    }

    private static void ledIs(StarfishWatch x, int[] due) {
        for (int i = 0; i < 5; i++) due("led(" + i + ")", x.led(i), due[i]);
    }

    private static void ledHeld() {
        sentence(28, "minutes as told, of throws, too, whether MINUTE stays at 999 or not");
        StarfishWatch x = after(cells(0), throwers(0), law("0"), mend(0, 7, 9), mend(0, 9, 995));
        x.fling(0);
        due("led(4)", x.led(4), 9);
        x.fling(0);
        due("led(4)", x.led(4), 18);
        x.pass(999);
        due("led(4)", x.led(4), 1017);
        x.pass(1);
        due("led(4)", x.led(4), 1018);
        due("MINUTE", x.of(0, 9), 999);
        sentence(28, "An object is used for at most 512 calls: the last one, too");
        StarfishWatch many = after(cells(0), throwers(0), law("0"), mend(0, 7, 9));
        for (int i = 0; i < 506; i++) many.fling(0);
        due("led(0), the 512th call", many.led(0), 506);
        StarfishWatch long511 = after();
        for (int i = 0; i < 511; i++) long511.pass(999);
        due("led(4), the 512th call", long511.led(4), 510489);
    }

    private static void image() {
        sentence(29, "AN IMAGE is kept: throws");
        due("image() of nothing", after().image(), 0);
        StarfishWatch x = after(cells(0), throwers(0), law("0"));
        for (int i = 1; i <= 4; i++) {
            x.fling(0);
            due("image()", x.image(), i);
        }
        sentence(29, "it keeps, and changes nothing");
        for (int i = 0; i < 5; i++) due("led(" + i + ")", x.led(i), new int[] {4, 0, 0, 0, 12}[i]);
        due("count(3)", x.count(3), 0);
        sentence(29, "the latest one is kept");
        x.fling(0);
        x.image();
        x.pass(100);
        x.fling(0);
        due("back()", x.back(), 5);
        due("MINUTE", x.of(0, 9), 15);
    }

    private static void back() {
        sentence(30, "STATE: there is none");
        refused("back()", STATE, x -> x.back());
        refused("back() behind deeds", STATE, x -> x.back(), cells(0), throwers(0), x -> x.fling(0), x -> x.pass(4));
        sentence(30, "It is laid back: throws; UP, GONE of STARS, MINUTE, SEED, what LED tells");
        StarfishWatch x = after(cells(0, 1, 2, 3), throwers(0), law("12"), up(1), x0 -> x0.pocket(2), mend(0, 9, 7), mend(0, 11, -5));
        x.fling(30);
        int seed = x.of(0, 11);
        x.image();
        x.fling(0);
        x.pass(700);
        x.pocket(1);
        for (int[] m : new int[][] {{2, 5, 0}, {0, 4, 1}, {3, 5, 1}, {0, 11, 99}}) x.mend(m[0], m[1], m[2]);
        int changes = x.count(3);
        due("back()", x.back(), 1);
        int[] up = {0, 1, 0, 1}, gone = {0, 0, 1, 0}, led = {1, 1, 0, 1, 3};
        for (int s = 0; s < 4; s++) {
            due("UP of " + s, x.of(s, 4), up[s]);
            due("GONE of " + s, x.of(s, 5), gone[s]);
        }
        due("MINUTE", x.of(0, 9), 10);
        due("SEED", x.of(0, 11), seed);
        ledIs(x, led);
        sentence(30, "deeds are no changes");
        due("count(3)", x.count(3), changes);
        sentence(30, "it may be laid back again");
        x.pass(3);
        x.pocket(3);
        due("back()", x.back(), 1);
        ledIs(x, led);
        due("GONE", x.of(3, 5), 0);
        due("back() at once", x.back(), 1);
        sentence(30, "an image of nothing");
        due("back()", after(y -> y.image(), y -> y.pass(9)).back(), 0);
    }

    private static void backSince() {
        sentence(30, "STARS that came since as they are");
        StarfishWatch x = after(cells(0), y -> y.image(), cells(1, 2, 3), up(0, 1), y -> y.pocket(2));
        x.back();
        int[] up = {0, 1, 0, 0}, gone = {0, 0, 1, 0};
        for (int s = 0; s < 4; s++) {
            due("UP of " + s, x.of(s, 4), up[s]);
            due("GONE of " + s, x.of(s, 5), gone[s]);
        }
        due("led(3)", x.led(3), 0);
        due("count(0)", x.count(0), 4);
        StarfishWatch none = after(y -> y.image(), cells(1, 2, 3, 4, 5, 6, 7, 8, 9, 10), up(0, 9));
        none.back();
        due("none came ahead", none.count(1), 2);
        StarfishWatch all = after(FULL_SKY, y -> y.image(), up(0, 9));
        all.back();
        due("all came ahead", all.count(1), 0);
        sentence(30, "no more than that: CELL, BRIGHT, DAWN, FLAT, NEEDS, law, tape, shelves as they are");
        StarfishWatch y = after(cells(0), throwers(0), ships(1), z -> z.image());
        int[][] mends = {{0, 0, 9}, {0, 1, 8}, {0, 2, 7}, {0, 3, 6}, {0, 6, 4}, {0, 7, 5}, {0, 8, 3}, {0, 10, 77}};
        for (int[] m : mends) y.mend(m[0], m[1], m[2]);
        tell(y, "9");
        feed(y, "77");
        bytes(y, 0, 5);
        y.body(0);
        y.back();
        for (int[] m : mends) due("of(0, " + m[1] + ")", y.of(0, m[1]), m[2]);
        due("odds(0)", y.odds(0), 9);
        due("count(2)", y.count(2), 2);
        due("count(3)", y.count(3), 8);
        due("count(4)", y.count(4), 1);
        due("element(0, 0)", y.element(0, 0), 5);
    }

    private static final int[] TO = {33, 9, 9, 9, 1, 1, 9, 9, 99, 99, 99, 99};

    private static void undoEach() {
        for (int what = 0; what < 12; what++) {
            sentence(31, "CHANGES (all numbers of mend()) can be UNDONE: what " + what);
            for (int number : what < 6 ? new int[] {0, 9} : what < 8 ? new int[] {0, 3} : what == 8 ? new int[] {0, 5} : new int[] {0}) {
                StarfishWatch x = after(FULL_SKY);
                int was = x.of(number, what);
                x.mend(number, what, TO[what]);
                due("count(3)", x.count(3), 1);
                due("undo()", x.undo(), 0);
                due("of(" + number + ", " + what + ")", x.of(number, what), was);
                due("count(3)", x.count(3), 0);
                due("redo()", x.redo(), 0);
                due("of(" + number + ", " + what + ")", x.of(number, what), TO[what]);
                due("count(3)", x.count(3), 1);
            }
        }
        sentence(31, "the latest first; how many may still be");
        StarfishWatch x = after(mend(0, 9, 10), mend(0, 10, 20), mend(0, 9, 30), mend(0, 9, 40));
        int[][] back = {{3, 30, 20}, {2, 10, 20}, {1, 10, 480}, {0, 0, 480}};
        for (int[] b : back) {
            due("undo()", x.undo(), b[0]);
            due("MINUTE", x.of(0, 9), b[1]);
            due("DAWN", x.of(0, 10), b[2]);
            due("count(3)", x.count(3), b[0]);
        }
    }

    private static void undoNone() {
        sentence(31, "STATE: none");
        refused("undo() of nothing", STATE, x -> x.undo());
        refused("undo() behind all", STATE, x -> x.undo(), mend(0, 9, 5), x -> x.undo());
        refused("undo() behind deeds", STATE, x -> x.undo(), cells(0), throwers(0), x -> x.fling(0), x -> x.pass(3), x -> x.pocket(0), x -> x.image(), x -> x.back());
        refused("undo() behind others that came", STATE, x -> x.undo(), FULL_SKY, law("3"));
        sentence(31, "telling the same number is none");
        refused("undo()", STATE, x -> x.undo(), cells(0), mend(0, 0, 0), mend(0, 1, 5), mend(0, 4, 0), mend(0, 9, 0), mend(0, 10, 480), mend(0, 11, 1));
        sentence(31, "what is BAD is none");
        refused("undo()", STATE, x -> x.undo(), cells(0, 1), mend(0, 0, 1), mend(0, 1, 10), mend(2, 1, 1), mend(1, 9, 1), mend(0, 12, 1));
        sentence(32, "STATE: none");
        refused("redo() of nothing", STATE, x -> x.redo());
        refused("redo() of what was not UNDONE", STATE, x -> x.redo(), mend(0, 9, 5));
        refused("redo() behind all", STATE, x -> x.redo(), mend(0, 9, 5), x -> x.undo(), x -> x.redo());
        refused("redo() behind another change", STATE, x -> x.redo(), mend(0, 9, 5), x -> x.undo(), mend(0, 9, 6));
        refused("redo() behind a change like it", STATE, x -> x.redo(), mend(0, 9, 5), x -> x.undo(), mend(0, 9, 5));
    }

    private static void undoCells() {
        sentence(31, "a CELL that another one has taken since: it stays");
        StarfishWatch x = after(cells(1, 2), mend(0, 1, 9), mend(0, 0, 10), mend(1, 0, 1));
        due("undo() of the other's", x.undo(), 2);
        due("undo(): free again", x.undo(), 1);
        due("of(0, 0)", x.of(0, 0), 1);
        StarfishWatch y = after(cells(1), mend(0, 1, 9), mend(0, 0, 10), cells(1));
        due("undo(): taken by one that came", y.undo(), 1);
        due("of(0, 0)", y.of(0, 0), 10);
        due("of(1, 0)", y.of(1, 0), 1);
        due("of(1, 12)", y.of(1, 12), 1);
        due("undo(): the one ahead of it", y.undo(), 0);
        due("of(0, 1)", y.of(0, 1), 5);
        StarfishWatch z = after(cells(1), mend(0, 0, 10), plan(0, 1, 5, 5), v -> v.stars(0, 0, 1), v -> v.pocket(1));
        due("undo(): taken by one that is GONE", z.undo(), 0);
        due("of(0, 0)", z.of(0, 0), 10);
        sentence(31, "a CELL that another one took and left: it is laid back");
        StarfishWatch w = after(cells(1), mend(0, 0, 10), cells(1), mend(1, 0, 20));
        due("undo() of the other's", w.undo(), 1);
        due("undo(): taken again", w.undo(), 0);
        due("of(0, 0)", w.of(0, 0), 10);
        StarfishWatch v = after(cells(1), mend(0, 0, 10), mend(0, 0, 11), cells(10));
        due("undo(): the CELL between is taken", v.undo(), 1);
        due("of(0, 0)", v.of(0, 0), 11);
        due("undo(): the first one is free", v.undo(), 0);
        due("of(0, 0)", v.of(0, 0), 1);
    }

    private static void redo() {
        sentence(32, "DONE AGAIN: how many may still be");
        StarfishWatch x = after(mend(0, 9, 10), mend(0, 10, 20), mend(0, 9, 30), mend(0, 9, 40), y -> { for (int i = 0; i < 4; i++) y.undo(); });
        int[][] on = {{3, 10, 480}, {2, 10, 20}, {1, 30, 20}, {0, 40, 20}};
        for (int i = 0; i < 4; i++) {
            due("redo()", x.redo(), on[i][0]);
            due("MINUTE", x.of(0, 9), on[i][1]);
            due("DAWN", x.of(0, 10), on[i][2]);
            due("count(3)", x.count(3), i + 1);
        }
        sentence(32, "as long as no other came behind: telling the same number, BAD, deeds are none");
        Calls undone = IN_USE;
        due("two may be", after(undone).redo(), 1);
        Calls[] none = {mend(0, 1, 7), mend(0, 1, 10), mend(7, 1, 1), y -> y.pass(3), y -> y.fling(0), y -> y.pocket(0), y -> y.image(), y -> y.back(),
            cells(30), throwers(1), ships(1), law("3"), plan(0, 30, 1, 1), y -> y.body(0), y -> y.act(0, 0, 0)};
        for (int i = 0; i < none.length; i++) due("redo() behind call " + i, after(undone, none[i]).redo(), 1);
        due("redo() behind a change", after(undone, mend(0, 9, 17)).redo(), STATE);
        sentence(32, "UNDONE and DONE AGAIN in turns");
        StarfishWatch z = after(mend(0, 9, 1), mend(0, 9, 2), mend(0, 9, 3));
        int[][] turns = {{0, 2, 2}, {0, 1, 1}, {1, 1, 2}, {0, 1, 1}, {0, 0, 0}, {0, STATE, 0}, {1, 2, 1}, {1, 1, 2}, {1, 0, 3}, {1, STATE, 3}, {0, 2, 2}};
        for (int[] t : turns) {
            due(t[0] == 0 ? "undo()" : "redo()", t[0] == 0 ? z.undo() : z.redo(), t[1]);
            due("MINUTE", z.of(0, 9), t[2]);
        }
        z.mend(0, 9, 50);
        due("another came behind: redo()", z.redo(), STATE);
        due("undo()", z.undo(), 2);
        due("MINUTE", z.of(0, 9), 2);
        due("redo()", z.redo(), 0);
        due("MINUTE", z.of(0, 9), 50);
    }

    private static void redoCells() {
        sentence(32, "a CELL that another one has taken since: it stays, DONE AGAIN, too");
        StarfishWatch x = after(cells(1), mend(0, 0, 10), mend(0, 1, 9), y -> y.undo(), y -> y.undo(), cells(10));
        due("redo()", x.redo(), 1);
        due("of(0, 0)", x.of(0, 0), 1);
        due("of(1, 0)", x.of(1, 0), 10);
        due("redo() of the next", x.redo(), 0);
        due("of(0, 1)", x.of(0, 1), 9);
        due("count(3)", x.count(3), 2);
        x.undo();
        due("undo()", x.undo(), 0);
        due("of(0, 0)", x.of(0, 0), 1);
    }

    private static void forty() {
        sentence(31, "40 at most are kept");
        for (int many : new int[] {39, 40, 41, 42, 80, 81, 100}) {
            StarfishWatch x = after();
            for (int i = 1; i <= many; i++) x.mend(0, 9, i);
            int kept = Math.min(40, many);
            due("count(3) of " + many, x.count(3), kept);
            for (int i = kept - 1; i >= 0; i--) due("undo()", x.undo(), i);
            due("undo() of " + many, x.undo(), STATE);
            due("MINUTE of " + many, x.of(0, 9), many - kept);
            for (int i = kept - 1; i >= 0; i--) due("redo()", x.redo(), i);
            due("redo() of " + many, x.redo(), STATE);
            due("MINUTE of " + many, x.of(0, 9), many);
        }
        sentence(31, "40 at most: the oldest is forgotten, of whatever kind");
        StarfishWatch y = after(cells(0, 1), throwers(3), ships(1));
        int[][] first = {{1, 0, 40}, {0, 1, 9}, {0, 6, 7}, {0, 8, 77}, {0, 11, 5}};
        for (int[] f : first) y.mend(f[0], f[1], f[2]);
        for (int i = 1; i <= 38; i++) y.mend(0, 9, i);
        due("count(3)", y.count(3), 40);
        for (int i = 0; i < 38; i++) y.undo();
        due("MINUTE", y.of(0, 9), 0);
        due("undo()", y.undo(), 1);
        due("SEED", y.of(0, 11), 1);
        due("undo()", y.undo(), 0);
        due("NEEDS", y.of(0, 8), 1);
        due("undo()", y.undo(), STATE);
        for (int i = 0; i < 3; i++) due("forgotten", y.of(first[i][0], first[i][1]), first[i][2]);
        mixed(40);
        mixed(41);
        mixed(79);
        sentence(31, "UNDONE ones make room");
        StarfishWatch z = after();
        for (int i = 1; i <= 40; i++) z.mend(0, 9, i);
        z.undo();
        z.mend(0, 9, 500);
        due("count(3)", z.count(3), 40);
        for (int i = 0; i < 40; i++) z.undo();
        due("MINUTE", z.of(0, 9), 0);
    }

    /** Changes of all kinds in turns, of which the latest forty are UNDONE, and DONE AGAIN, each as it was. */
    private static void mixed(int many) {
        sentence(32, "40 at most are kept: each its number, what it was and what it became, of " + many);
        StarfishWatch x = after(FULL_SKY);
        int[][] all = new int[many][];
        for (int i = 0; i < many; i++) {
            int what = i * 5 % 12, number = what < 6 ? i * 7 % 10 : what < 8 ? i % 4 : what == 8 ? i % 6 : 0;
            int was = x.of(number, what);
            int v = what == 0 ? free(x, i) : what == 4 || what == 5 ? 1 - was : what < 8 ? (was + i % 4) % 9 + 1 : 100 + i;
            all[i] = new int[] {number, what, was, v};
            due("mend " + i, x.mend(number, what, all[i][3]), was);
        }
        due("count(3)", x.count(3), 40);
        for (int i = many - 1; i >= many - 40; i--) {
            due("undo() of " + i, x.undo(), i - many + 40);
            due("of(" + all[i][0] + ", " + all[i][1] + ")", x.of(all[i][0], all[i][1]), all[i][2]);
        }
        due("undo()", x.undo(), STATE);
        for (int i = many - 40; i < many; i++) {
            due("redo() of " + i, x.redo(), many - 1 - i);
            due("of(" + all[i][0] + ", " + all[i][1] + ")", x.of(all[i][0], all[i][1]), all[i][3]);
        }
        due("redo()", x.redo(), STATE);
    }

    /** A cell that is free, from the told one on. */
    private static int free(StarfishWatch x, int from) {
        for (int c = from; ; c++) if (x.of(c % 48, 12) == NOT) return c % 48;
    }

    private static void deedsAreNone() {
        sentence(31, "deeds are none (UP, GONE, MINUTE, SEED by them, too)");
        StarfishWatch x = after(cells(0, 1), throwers(0), law("12"), mend(0, 10, 470));
        x.fling(0);
        x.pass(5);
        x.pocket(1);
        x.image();
        x.back();
        due("count(3)", x.count(3), 1);
        due("undo()", x.undo(), 0);
        due("DAWN", x.of(0, 10), 480);
        due("UP", x.of(0, 4), 1);
        due("GONE", x.of(1, 5), 1);
        due("MINUTE", x.of(0, 9), 8);
        due("SEED", x.of(0, 11), next(1));
        sentence(31, "UNDONE: as it was ahead of the change, whatever deeds came since");
        StarfishWatch y = after(cells(0), mend(0, 9, 50), mend(0, 11, 9), mend(0, 4, 1), mend(0, 5, 1), throwers(0));
        y.mend(0, 5, 0);
        y.pocket(0);
        y.pass(9);
        due("undo() of GONE", y.undo(), 4);
        due("GONE", y.of(0, 5), 1);
        due("undo() of GONE", y.undo(), 3);
        due("GONE", y.of(0, 5), 0);
        due("UP", y.of(0, 4), 0);
        due("undo() of UP", y.undo(), 2);
        due("UP", y.of(0, 4), 0);
        due("redo() of UP", y.redo(), 2);
        due("UP", y.of(0, 4), 1);
        y.undo();
        due("undo() of SEED", y.undo(), 1);
        due("SEED", y.of(0, 11), 1);
        due("undo() of MINUTE", y.undo(), 0);
        due("MINUTE", y.of(0, 9), 0);
        due("redo() of MINUTE", y.redo(), 4);
        due("MINUTE", y.of(0, 9), 50);
    }
}
