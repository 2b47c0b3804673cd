import java.util.HashMap;
import java.util.HashSet;
import java.util.Map;
import java.util.Random;
import java.util.Set;

/**
 * What both the class and the Model work out by a formula or by a machine, told by the
 * document's bare words: FAULT by trying whether any TEXT goes on, WALK by going every step.
 */
public final class LiteralTests {
    private static final String SIGNS = "1f(!-+<;?)|";
    private static final String[] JOINING = {"|", "&", "<=>", "+-", "*/%"};
    private static int wrong = 0, asked = 0;

    private static void due(String call, long got, long want) {
        asked++;
        if (got == want) return;
        wrong++;
        System.out.println(call + " answered " + got + ", due is " + want);
    }

    // ---- the grammar as it stands: from a place, all places where such a part may end

    private final String text;
    private final Map<Integer, Set<Integer>> known = new HashMap<>();

    private LiteralTests(String text) { this.text = text; }

    private static boolean isText(String text) {
        LiteralTests t = new LiteralTests(text);
        Set<Integer> lines = t.line(0), all = new HashSet<>();
        while (!lines.isEmpty()) {
            all.addAll(lines);
            Set<Integer> more = new HashSet<>();
            for (int end : lines) if (t.at(end) == ';') more.addAll(t.line(end + 1));
            more.removeAll(all);
            lines = more;
        }
        return all.contains(text.length());
    }

    private int at(int place) { return place < text.length() ? text.charAt(place) : -1; }

    private Set<Integer> line(int from) {
        Set<Integer> first = part(0, from, 0), all = new HashSet<>(first);
        for (int end : first) if (at(end) == '?') all.addAll(part(0, end + 1, 0));
        return all;
    }

    /** Rank 0: E, 1: A, 2: B, 3: S, 4: P, 5: O. */
    private Set<Integer> part(int rank, int from, int open) {
        int key = (from * 8 + open) * 8 + rank;
        Set<Integer> ends = known.get(key);
        if (ends == null) {
            ends = rank == 5 ? operand(from, open) : joined(rank, from, open);
            known.put(key, ends);
        }
        return ends;
    }

    private Set<Integer> joined(int rank, int from, int open) {
        Set<Integer> all = new HashSet<>(), last = part(rank + 1, from, open);
        for (int more = rank == 2 ? 1 : 999; more >= 0 && !last.isEmpty(); more--) {
            all.addAll(last);
            Set<Integer> next = new HashSet<>();
            for (int end : last) {
                if (at(end) >= 0 && JOINING[rank].indexOf(at(end)) >= 0) next.addAll(part(rank + 1, end + 1, open));
            }
            last = next;
        }
        return all;
    }

    private Set<Integer> operand(int from, int open) {
        Set<Integer> all = new HashSet<>();
        int c = at(from);
        for (int n = 0; n < 4 && at(from + n) >= '0' && at(from + n) <= '9'; n++) all.add(from + n + 1);
        if (c >= 0 && "fsbyam".indexOf(c) >= 0) all.add(from + 1);
        if (open >= 6) return all;
        if (c == '!' || c == '-') all.addAll(part(5, from + 1, open + 1));
        if (c == '(') {
            for (int end : part(0, from + 1, open + 1)) if (at(end) == ')') all.add(end + 1);
        }
        return all;
    }

    /** Whether some TEXT goes on so: an operand, if one is wanted, and brackets closed, end any. */
    private static boolean goesOn(String ahead) {
        for (int close = 0; close <= 6; close++) {
            if (isText(ahead + ")".repeat(close)) || isText(ahead + "1" + ")".repeat(close))) return true;
        }
        return false;
    }

    private static int law(String text) {
        StarfishWatch x = new StarfishWatch();
        for (int i = 0; i < text.length(); i++) x.feed(text.charAt(i));
        return x.law();
    }

    /** All that goes on from a text's beginning, and every byte with which none does. */
    private static void faults(String ahead, int more) {
        due("law() of " + ahead, law(ahead), isText(ahead) ? 1 : -100 - ahead.length());
        if (more == 0) return;
        for (int i = 0; i < SIGNS.length(); i++) {
            String next = ahead + SIGNS.charAt(i);
            if (goesOn(next)) {
                faults(next, more - 1);
            } else {
                due("law() of " + next, law(next), -100 - ahead.length());
                due("law() of " + next + "+1", law(next + "+1"), -100 - ahead.length());
            }
        }
    }

    private static void everyByte(String ahead) {
        for (char c = 0; c < 256; c++) {
            due("law() of " + ahead + " and byte " + (int) c, law(ahead + c), goesOn(ahead + c)
                ? isText(ahead + c) ? 1 : -101 - ahead.length() : -100 - ahead.length());
        }
    }

    // ---- every walk, a step at a time

    /** The most BRIGHT (part 0) and of like walks the least way left (part 1). */
    private static int[] walk(int[] bright, int place, int t) {
        Set<Integer> now = new HashSet<>(Set.of((place * 24 + place) * 24 + place));
        Set<Integer> all = new HashSet<>(now);
        for (int step = 0; step < t; step++) {
            Set<Integer> next = new HashSet<>();
            for (int s : now) {
                int low = s / 576, high = s / 24 % 24, is = s % 24;
                for (int to = is - 1; to <= is + 1; to += 2) {
                    if (to >= 0 && to < 24) next.add((Math.min(low, to) * 24 + Math.max(high, to)) * 24 + to);
                }
            }
            next.removeAll(all);
            all.addAll(next);
            now = next;
        }
        int[] best = {-1, 0};
        for (int s : all) {
            int low = s / 576, high = s / 24 % 24, sum = 0;
            for (int i = low; i <= high; i++) sum += bright[i];
            if (sum > best[0] || sum == best[0] && place - low < best[1]) best = new int[] {sum, place - low};
        }
        return best;
    }

    private static void walks(long seed) {
        Random r = new Random(seed);
        int many = 1 + r.nextInt(10), calls = 0;
        int[] cell = new int[many], sticky = new int[many], bright = new int[many], on = new int[24];
        Set<Integer> seen = new HashSet<>();
        for (int i = 0; i < many; i++) {
            do cell[i] = r.nextInt(48); while (!seen.add(cell[i]));
            sticky[i] = r.nextInt(10);
            bright[i] = r.nextInt(4) == 0 ? 9 : 1 + r.nextInt(3);
            on[(3 * (cell[i] % 8) + sticky[i]) % 24] += bright[i];
        }
        StarfishWatch x = null;
        for (int place = 0; place < 24; place++) {
            for (int t = 0; t <= 40; t++) {
                if (calls++ % 200 == 0) x = strewn(cell, sticky, bright);
                int[] best = walk(on, place, t);
                due("seed " + seed + ": walk(" + place + ", " + t + ", 0)", x.walk(place, t, 0), best[0]);
                due("seed " + seed + ": walk(" + place + ", " + t + ", 1)", x.walk(place, t, 1), best[1]);
            }
        }
    }

    private static StarfishWatch strewn(int[] cell, int[] sticky, int[] bright) {
        StarfishWatch x = new StarfishWatch();
        for (int i = 0; i < cell.length; i++) {
            x.star(cell[i]);
            x.mend(i, 2, sticky[i]);
            x.mend(i, 1, bright[i]);
            x.mend(i, 4, 1);
        }
        return x;
    }

    public static void main(String[] args) {
        faults("", 4);
        // Near each bound: six open at once, four digits, one comparing, one question a line.
        String[] near = {"((((", "!-!-", "-(!(", "((1)+(!1)+((((", "123", "(000", "1<", "1<2", "(1<2", "1<2|", "1?",
            "1?2", "(1", "1?2;", "0?1;2?3", "((((((1", "((((((1)", "!!!!!!1", "!!!!!!1*", "1234", "-1234"};
        for (String ahead : near) faults(ahead, 3);
        for (String ahead : new String[] {"", "1", "f", "1+", "(", "(1", "1?", "1?1", "1;", "1234", "!!!!!!", "1<1", "(1)"}) everyByte(ahead);
        for (long seed = 0; seed < 12; seed++) walks(seed);
        System.out.println(asked + " answers, " + wrong + " not as due");
        if (wrong != 0) System.exit(1);
    }
}
