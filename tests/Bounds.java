import java.util.ArrayList;
import java.util.List;

/**
 * What the tests of boundary cases share: a sentence of the document, what is due by it, and
 * that a call that is refused changes nothing that any call could tell.
 */
abstract class Bounds {
    static final int BAD = -1, NOT = -2, FULL = -3, STATE = -5, VOID = -2000000000;
    static final int MISSING = -11, UNLIKE = -12, NO_PLACE = -13, NO_SIZE = -14;
    static final int MIN = Integer.MIN_VALUE, MAX = Integer.MAX_VALUE;
    static final long NO_LONG = Long.MIN_VALUE;
    private static final int PROBES = 8;

    interface Calls { void on(StarfishWatch x); }
    interface Call { long on(StarfishWatch x); }

    private static int wrong = 0, sentences = 0, promise = 0;
    private static String words = "";

    /** From here on this sentence is tested. */
    static void sentence(int of, String told) {
        promise = of;
        words = told;
        sentences++;
    }

    static void due(String call, long got, long want) {
        if (got == want) return;
        wrong++;
        System.out.println("promise " + promise + " (" + words + "): " + call + " answered " + got + ", due is " + want);
    }

    static void end() {
        System.out.println(sentences + " sentences, " + wrong + " answers not as due");
        if (wrong != 0) System.exit(1);
    }

    static StarfishWatch after(Calls... ahead) {
        StarfishWatch x = new StarfishWatch();
        for (Calls c : ahead) c.on(x);
        return x;
    }

    /** The call is answered so behind these calls, twice, and nothing is changed by it. */
    static void refused(String call, long want, Call it, Calls... ahead) {
        unchanged(call, want, it, ahead);
        StarfishWatch x = after(ahead);
        it.on(x);
        due(call + ", again", it.on(x), want);
    }

    /** The call is answered so, and nothing is changed by it. */
    static void unchanged(String call, long want, Call it, Calls... ahead) {
        for (int part = 0; part < PROBES; part++) {
            StarfishWatch x = after(ahead), same = after(ahead);
            due(call, it.on(x), want);
            List<String> names = new ArrayList<>();
            List<Long> are = probe(part, x, names), were = probe(part, same, new ArrayList<>());
            for (int i = 0; i < Math.max(are.size(), were.size()); i++) {
                if (i < are.size() && i < were.size() && are.get(i).equals(were.get(i))) continue;
                due("behind " + call + ", " + (i < names.size() ? names.get(i) : "a call more"), i < are.size() ? are.get(i) : 0, i < were.size() ? were.get(i) : 0);
                return;
            }
        }
    }

    /** All that can be told of an object, a part at a time: for some of it must be spent. */
    private static List<Long> probe(int part, StarfishWatch x, List<String> names) {
        List<Long> all = new ArrayList<>();
        switch (part) {
            case 0: numbers(x, all, names); cells(x, all, names); break;
            case 1: row(x, 0, all, names); row(x, 1, all, names); row(x, 2, all, names); break;
            case 2: row(x, 3, all, names); row(x, 4, all, names); row(x, 5, all, names); break;
            case 3: changes(x, all, names); break;
            case 4: add(all, names, "back()", x.back()); numbers(x, all, names); break;
            case 5: laws(x, all, names); break;
            case 6: bodies(x, all, names); break;
            default: undone(x, all, names);
        }
        return all;
    }

    private static void add(List<Long> all, List<String> names, String call, long got) {
        all.add(got);
        names.add(call);
    }

    private static void numbers(StarfishWatch x, List<Long> all, List<String> names) {
        int[] most = {10, 10, 10, 10, 10, 10, 4, 4, 6, 1, 1, 1};
        for (int what = 0; what < 12; what++) {
            for (int n = 0; n < most[what]; n++) add(all, names, "of(" + n + ", " + what + ")", x.of(n, what));
        }
        for (int i = 0; i < 5; i++) add(all, names, "led(" + i + ")", x.led(i));
        for (int i = 0; i < 8; i++) add(all, names, "count(" + i + ")", x.count(i));
    }

    private static void cells(StarfishWatch x, List<Long> all, List<String> names) {
        for (int c = 0; c < 48; c++) add(all, names, "of(" + c + ", 12)", x.of(c, 12));
        for (int i = 0; i < 12; i++) add(all, names, "trace(" + i + ")", x.trace(i));
    }

    private static void row(StarfishWatch x, int shelf, List<Long> all, List<String> names) {
        add(all, names, "taken(" + shelf + ", 0)", x.taken(shelf, 0));
        for (int i = 0; i < 60; i++) add(all, names, "element(" + shelf + ", " + i + ")", x.element(shelf, i));
        add(all, names, "put(" + shelf + ", 0)", x.put(shelf, 0, 0x1234567890ABCDEFL));
        add(all, names, "the sort of " + shelf, x.element(shelf, 0));
    }

    private static void changes(StarfishWatch x, List<Long> all, List<String> names) {
        for (int i = 0; i < 41; i++) add(all, names, "undo()", x.undo());
        numbers(x, all, names);
        for (int i = 0; i < 41; i++) add(all, names, "redo()", x.redo());
        numbers(x, all, names);
    }

    private static void undone(StarfishWatch x, List<Long> all, List<String> names) {
        for (int i = 0; i < 41; i++) add(all, names, "redo()", x.redo());
        numbers(x, all, names);
    }

    private static void laws(StarfishWatch x, List<Long> all, List<String> names) {
        for (int st = 0; st < 100; st++) if (st % 10 < 4) add(all, names, "odds(" + st + ")", x.odds(st));
        add(all, names, "law()", x.law());
        for (int st = 0; st < 100; st++) if (st % 10 < 4) add(all, names, "odds(" + st + ")", x.odds(st));
    }

    private static void bodies(StarfishWatch x, List<Long> all, List<String> names) {
        for (int b = 0; b < 50; b++) {
            add(all, names, "keep(0, " + b + ")", x.keep(0, b));
            add(all, names, "taken(0, 0)", x.taken(0, 0));
            add(all, names, "act(" + b + ", 2, 0)", x.act(b, 2, 0));
        }
    }

    // ---- calls that make something of an object

    static void feed(StarfishWatch x, String text) {
        for (int i = 0; i < text.length(); i++) x.feed(text.charAt(i));
    }

    static int tell(StarfishWatch x, String text) {
        feed(x, text);
        return x.law();
    }

    static void bytes(StarfishWatch x, int shelf, int... all) {
        x.row(shelf, 0, all.length);
        for (int i = 0; i < all.length; i++) x.put(shelf, i, all[i]);
    }

    static Calls law(String text) { return x -> tell(x, text); }
    static Calls plan(int shelf, int... all) { return x -> bytes(x, shelf, all); }
    static Calls mend(int number, int what, int v) { return x -> x.mend(number, what, v); }
    static Calls up(int... stars) { return x -> { for (int s : stars) x.mend(s, 4, 1); }; }
    static Calls cells(int... all) { return x -> { for (int c : all) x.star(c); }; }
    static Calls ships(int... all) { return x -> { for (int s : all) x.ship(s); }; }
    static Calls throwers(int... all) { return x -> { for (int f : all) x.thrower(f); }; }

    /** Something of all that an object can have: and on shelf 5 nothing. */
    static final Calls IN_USE = x -> {
        for (int c : new int[] {0, 9, 47}) x.star(c);
        x.thrower(0);
        x.thrower(9);
        x.ship(1);
        x.ship(6);
        tell(x, "f+3");
        feed(x, "s*2");
        x.fling(1);
        x.image();
        x.fling(10);
        x.pass(4);
        x.pocket(1);
        for (int[] m : new int[][] {{0, 1, 7}, {1, 2, 3}, {0, 10, 300}, {1, 7, 5}, {2, 0, 46}, {2, 4, 1}, {0, 11, 77}, {2, 3, 8}}) x.mend(m[0], m[1], m[2]);
        x.undo();
        x.undo();
        for (int k = 7; k >= 0; k--) x.body(k);
        x.act(2, 3, 5);
        bytes(x, 0, 0, 1, 2, 0, 4, 5);
        x.row(1, 1, 4);
        x.put(1, 2, -7);
        x.row(2, 2, 60);
        x.put(2, 59, 123456);
        x.keep(3, 4);
        x.row(4, 3, 2);
        x.put(4, 1, 1L << 50);
    };

    /** As many stars, throwers and ships as there may be. */
    static final Calls FULL_SKY = x -> {
        for (int c = 20; x.count(0) < 10; c++) x.star(c);
        while (x.count(6) < 4) x.thrower(2 * x.count(6));
        while (x.count(7) < 6) x.ship(1 << x.count(7));
    };
}
