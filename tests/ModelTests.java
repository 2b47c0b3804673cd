import java.util.Random;

/** Runs of calls by a fixed seed, each answer of StarfishWatch held against the Model's. */
public final class ModelTests {
    private static final int RUNS = 1500, CALLS = 512;
    private static final int[] ODD = {-1, -2, 10, 48, 60, 61, 120, 999, 1000, 1023, 1024, 2000,
        Integer.MAX_VALUE, Integer.MIN_VALUE, Integer.MAX_VALUE - 1, -2000000000};

    private final Random r;
    private final StarfishWatch x = new StarfishWatch();
    private final Model m = new Model();
    private final StringBuilder told = new StringBuilder();
    private String rest = "";
    int wrong = 0;

    private ModelTests(long seed) { r = new Random(seed); }

    public static void main(String[] args) {
        int passed = 0, failed = 0;
        for (int run = 0; run < RUNS; run++) {
            ModelTests t = new ModelTests(run);
            int flavour = run % 4;
            for (int call = 0; call < CALLS && t.wrong == 0; call++) t.step(flavour, call);
            if (t.wrong == 0) passed++;
            else failed++;
        }
        System.out.println(passed + " passed, " + failed + " failed");
        if (failed != 0) System.exit(1);
    }

    private void due(String call, long got, long want) {
        told.append(call).append(" = ").append(got).append('\n');
        if (got == want) return;
        wrong++;
        String all = told.toString();
        System.out.println(all.substring(Math.max(0, all.length() - 3000)) + "  due is " + want);
    }

    /** Mostly from low to high, both included; now and then anything. */
    private int in(int low, int high) {
        int kind = r.nextInt(40);
        if (kind == 0) return ODD[r.nextInt(ODD.length)];
        if (kind == 1) return r.nextBoolean() ? low - 1 : high + 1;
        return low + r.nextInt(high - low + 1);
    }

    private int star() { return in(0, Math.max(0, m.stars.size() - 1)); }
    private int thrower() { return in(0, Math.max(0, m.throwers.size() - 1)); }
    private int shelf() { return in(0, 5); }
    private int st() { return 10 * in(0, Math.max(0, m.stars.size() - 1)) + in(0, Math.max(0, m.throwers.size() - 1)); }

    private void step(int flavour, int call) {
        if (!rest.isEmpty()) {
            feed(rest.charAt(0));
            rest = rest.substring(1);
            if (rest.isEmpty()) law();
            return;
        }
        if (call < 12 + 6 * flavour) {
            settle();
            return;
        }
        switch (r.nextInt(14)) {
            case 0: case 1: settle(); break;
            case 2: case 3: case 4: deed(); break;
            case 5: case 6: ask(); break;
            case 7: case 8: plan(); break;
            case 9: puzzles(); break;
            case 10: case 11: rows(); break;
            case 12: acts(); break;
            default:
                if (r.nextInt(3) == 0) rest = text();
                else for (int i = r.nextInt(8); i >= 0; i--) mends();
        }
    }

    private void settle() {
        int a;
        switch (r.nextInt(4)) {
            case 0: a = in(0, 47); due("star(" + a + ")", x.star(a), m.star(a)); break;
            case 1: a = in(0, 9); due("thrower(" + a + ")", x.thrower(a), m.thrower(a)); break;
            case 2:
                a = r.nextInt(4) == 0 ? in(1, 1023) : 1 << r.nextInt(10) | 1 << r.nextInt(10);
                due("ship(" + a + ")", x.ship(a), m.ship(a));
                break;
            default: mends();
        }
    }

    private void mends() {
        int what = in(0, 11), number, v;
        number = what <= 5 ? star() : what <= 7 ? thrower() : what == 8 ? in(0, 5) : in(0, 0);
        int[] high = {47, 9, 9, 9, 1, 1, 9, 9, 1023, 999, 999};
        v = what >= 0 && what <= 10 ? in(0, high[what]) : r.nextInt();
        if (what == 0 && r.nextBoolean()) v = in(0, 12);
        switch (r.nextInt(6)) {
            case 0: due("of(" + number + "," + what + ")", x.of(number, what), m.of(number, what)); break;
            case 1:
                number = in(0, 47);
                due("of(" + number + ",12)", x.of(number, 12), m.of(number, 12));
                break;
            default: due("mend(" + number + "," + what + "," + v + ")", x.mend(number, what, v), m.mend(number, what, v));
        }
    }

    private void deed() {
        int a;
        switch (r.nextInt(10)) {
            case 0: case 1: a = st(); due("fling(" + a + ")", x.fling(a), m.fling(a)); break;
            case 2:
                a = r.nextBoolean() ? in(1, 40) : in(1, 999);
                due("pass(" + a + ")", x.pass(a), m.pass(a));
                break;
            case 3:
                a = star();
                if (r.nextBoolean()) due("pocket(" + a + ")", x.pocket(a), m.pocket(a));
                else due("mend(" + a + ",4,1)", x.mend(a, 4, 1), m.mend(a, 4, 1));
                break;
            case 4: a = in(0, 4); due("led(" + a + ")", x.led(a), m.led(a)); break;
            case 5: if (r.nextBoolean()) due("image()", x.image(), m.image()); else due("back()", x.back(), m.back()); break;
            case 6: case 7: due("undo()", x.undo(), m.undo()); break;
            case 8: due("redo()", x.redo(), m.redo()); break;
            default: a = in(0, 7); due("count(" + a + ")", x.count(a), m.count(a));
        }
    }

    private void ask() {
        int a = star(), b, c;
        switch (r.nextInt(7)) {
            case 0: due("drops(" + a + ")", x.drops(a), m.drops(a)); break;
            case 1:
                a = r.nextInt(3) == 0 ? -1 : in(m.dawn - 5, m.dawn + 40);
                due("upBy(" + a + ")", x.upBy(a), m.upBy(a));
                break;
            case 2: due("lies(" + a + ")", x.lies(a), m.lies(a)); break;
            case 3: case 4:
                a = in(0, 23); b = in(0, 40); c = in(0, 1);
                due("walk(" + a + "," + b + "," + c + ")", x.walk(a, b, c), m.walk(a, b, c));
                break;
            case 5: due("steer()", x.steer(), m.steer()); break;
            default: a = in(0, 6); due("odds(" + (a = st()) + ")", x.odds(a), m.odds(a));
        }
    }

    private void plan() {
        int a = shelf(), b, c, d;
        switch (r.nextInt(7)) {
            case 0:
                // A row that is likely to be a plan.
                a = r.nextInt(6);
                b = r.nextInt(24);
                due("row(" + a + ",0," + b + ")", x.row(a, 0, b), m.row(a, 0, b));
                for (int i = 0; i < b; i++) fill(a, i, i % 2 == 0 ? (i / 2 + c(3)) % 10 : thrower());
                break;
            case 1: case 2: b = in(-1, 9); due("flung(" + a + "," + b + ")", x.flung(a, b), m.flung(a, b)); break;
            case 3: b = in(0, 1); due("likely(" + a + "," + b + ")", x.likely(a, b), m.likely(a, b)); break;
            case 4: b = in(0, 1); due("mean(" + a + "," + b + ")", x.mean(a, b), m.mean(a, b)); break;
            case 5: b = in(-1, 5); due("dealt(" + b + ")", x.dealt(b), m.dealt(b)); break;
            default:
                b = r.nextInt(); c = in(1, 30); d = r.nextBoolean() ? -1 : star();
                due("drawn(" + b + "," + a + "," + c + "," + d + ")", x.drawn(b, a, c, d), m.drawn(b, a, c, d));
        }
    }

    private int c(int in) { return r.nextInt(in) == 0 ? 1 : 0; }

    private void fill(int shelf, int i, long v) {
        due("put(" + shelf + "," + i + "," + v + ")", x.put(shelf, i, v), m.put(shelf, i, v));
    }

    private void puzzles() {
        int a = shelf(), b = in(0, 1), c;
        switch (r.nextInt(9)) {
            case 0: b = in(0, 3); due("fewest(" + b + ")", x.fewest(b), m.fewest(b)); break;
            case 1: case 2: due("home(" + a + "," + b + ")", x.home(a, b), m.home(a, b)); break;
            case 3: case 4: b = in(0, 3); due("pattern(" + a + "," + b + ")", x.pattern(a, b), m.pattern(a, b)); break;
            case 5:
                a = r.nextInt(12) == 0 ? 4 : in(1, 3);
                due("byTurns(" + a + "," + b + ")", x.byTurns(a, b), m.byTurns(a, b));
                break;
            case 6:
                // A row that is likely to tell of ships.
                a = r.nextInt(6);
                c = 2 * r.nextInt(5);
                due("row(" + a + ",0," + c + ")", x.row(a, 0, c), m.row(a, 0, c));
                int steers = m.steer() & ~(c(2) << r.nextInt(6));
                for (int i = 0; i < c; i++) fill(a, i, i % 2 == 0 ? i / 2 : steers >> i / 2 & 1);
                break;
            case 7:
                // Rows that are likely to be patterns, and stars.
                a = r.nextInt(6);
                c = r.nextInt(4);
                due("row(" + a + ",0," + c + ")", x.row(a, 0, c), m.row(a, 0, c));
                int dx = r.nextInt(5) - 2;
                for (int i = 0; i < c; i++) fill(a, i, m.stars.isEmpty() ? 3 : m.stars.get(r.nextInt(m.stars.size())).cell + dx);
                break;
            default:
                c = in(1, 10); b = in(0, 6);
                due("stars(" + a + "," + b + "," + c + ")", x.stars(a, b, c), m.stars(a, b, c));
        }
    }

    private void rows() {
        int a = shelf(), b, c, d, e;
        long v;
        switch (r.nextInt(8)) {
            case 0: b = r.nextBoolean() ? 0 : in(0, 4); c = in(0, 60); due("row(" + a + "," + b + "," + c + ")", x.row(a, b, c), m.row(a, b, c)); break;
            case 1: case 2: case 3:
                b = in(0, 12);
                v = r.nextInt(5) == 0 ? r.nextLong() : r.nextInt(12);
                due("put(" + a + "," + b + "," + v + ")", x.put(a, b, v), m.put(a, b, v));
                break;
            case 4: b = in(0, 12); due("element(" + a + "," + b + ")", x.element(a, b), m.element(a, b)); break;
            case 5: case 6:
                b = in(0, 9); c = r.nextBoolean() ? a : shelf(); d = in(0, 9); e = in(0, 9);
                due("shift(" + a + "," + b + "," + c + "," + d + "," + e + ")", x.shift(a, b, c, d, e), m.shift(a, b, c, d, e));
                break;
            default:
                b = in(-1, Math.max(0, m.bodies.size() - 1));
                due("keep(" + a + "," + b + ")", x.keep(a, b), m.keep(a, b));
        }
    }

    private void acts() {
        int a, b, c;
        switch (r.nextInt(6)) {
            case 0: a = in(0, 7); due("body(" + a + ")", x.body(a), m.body(a)); break;
            case 1: case 2:
                a = in(0, Math.max(0, m.bodies.size() - 1)); b = in(0, 3); c = r.nextBoolean() ? r.nextInt() : in(-9, 9);
                due("act(" + a + "," + b + "," + c + ")", x.act(a, b, c), m.act(a, b, c));
                for (int i = 0; i < 12; i++) due("trace(" + i + ")", x.trace(i), m.trace(i));
                due("count(5)", x.count(5), m.count(5));
                break;
            case 3: a = in(0, 25); due("trace(" + a + ")", x.trace(a), m.trace(a)); break;
            default: a = shelf(); b = in(0, 7); due("taken(" + a + "," + b + ")", x.taken(a, b), m.taken(a, b));
        }
    }

    // ---- texts

    private void feed(int letter) { due("feed(" + letter + ")", x.feed(letter), m.feed(letter)); }

    private void law() {
        due("law()", x.law(), m.law());
        for (int i = 0; i < 6; i++) {
            int a = 10 * r.nextInt(10) + r.nextInt(4);
            due("odds(" + a + ")", x.odds(a), m.odds(a));
        }
    }

    private String text() {
        StringBuilder b = new StringBuilder();
        int lines = 1 + r.nextInt(3);
        for (int i = 0; i < lines; i++) {
            if (i > 0) b.append(';');
            if (r.nextInt(3) > 0) b.append(joined(0, 0)).append('?');
            b.append(joined(0, 0));
        }
        for (int i = r.nextInt(3); i > 0; i--) {
            int at = r.nextInt(b.length());
            String any = "|&<=>+-*/%!(((()))09fsbyam?;x \u00ff";
            char c = any.charAt(r.nextInt(any.length()));
            if (r.nextBoolean()) b.setCharAt(at, c);
            else b.insert(at, c);
        }
        if (r.nextInt(5) == 0) b.setLength(1 + r.nextInt(b.length()));
        if (b.length() > 125) b.setLength(125);
        return b.toString();
    }

    private String joined(int rank, int deep) {
        String[] signs = {"|", "&", "<=>", "+-", "*/%"};
        if (rank == 5) return operand(deep);
        StringBuilder b = new StringBuilder(joined(rank + 1, deep));
        int most = rank == 2 ? 1 : 2;
        for (int i = 0; i < most && r.nextInt(4) == 0; i++) {
            b.append(signs[rank].charAt(r.nextInt(signs[rank].length()))).append(joined(rank + 1, deep));
        }
        return b.toString();
    }

    private String operand(int deep) {
        int kind = r.nextInt(deep > 7 ? 6 : 9);
        if (kind < 2) return "" + r.nextInt(r.nextInt(4) == 0 ? 10000 : 13);
        if (kind < 6) return "" + "fsbyam".charAt(r.nextInt(6));
        if (kind == 6) return "!" + operand(deep + 1);
        if (kind == 7) return "-" + operand(deep + 1);
        return "(" + joined(deep > 4 ? 4 : 0, deep + 1) + ")";
    }
}
