import java.math.BigInteger;
import java.util.ArrayDeque;
import java.util.ArrayList;
import java.util.Arrays;
import java.util.Deque;
import java.util.HashSet;
import java.util.LinkedHashMap;
import java.util.List;
import java.util.Map;
import java.util.Set;
import java.util.TreeMap;

/**
 * The document told a second time, by other means than src/main: acts by Java's own
 * inheritance, faults by a machine with a stack, the law by cutting texts, turns, deals and
 * walks by trying all. ModelTests holds the two against each other.
 */
final class Model {
    static final int BAD = -1, NOT = -2, FULL = -3, STATE = -5, VOID = -2000000000;

    static final class Star { int cell, bright = 5, sticky = 5, arms = 5, up, gone; }
    static final class Thrower { int flat, speed = 3; }
    static final class Throw { int star, thrower, minute, odds; }
    static final class Change { int number, what, was, is; }
    static final class Row { int sort; long[] e; }

    final List<Star> stars = new ArrayList<>();
    final List<Thrower> throwers = new ArrayList<>();
    final List<Integer> ships = new ArrayList<>();
    int minute = 0, dawn = 480, seed = 1;
    int[] led = new int[5];
    final List<Integer> tape = new ArrayList<>();
    String law = null;
    final List<Change> changes = new ArrayList<>();
    final List<Change> undone = new ArrayList<>();
    int[] image = null;
    final List<Arm> bodies = new ArrayList<>();
    List<Integer> trace = new ArrayList<>();
    final Object[] shelves = new Object[6];

    // ---- stars, throwers, ships
    boolean isStar(int s) { return s >= 0 && s < stars.size(); }
    boolean isThrower(int t) { return t >= 0 && t < throwers.size(); }
    boolean isShip(int s) { return s >= 0 && s < ships.size(); }

    int starAt(int cell) {
        for (int i = 0; i < stars.size(); i++) if (stars.get(i).cell == cell) return i;
        return NOT;
    }

    int star(int cell) {
        if (cell < 0 || cell > 47 || starAt(cell) >= 0) return BAD;
        if (stars.size() == 10) return FULL;
        Star s = new Star();
        s.cell = cell;
        stars.add(s);
        return stars.size() - 1;
    }

    int stars(int shelf, int i, int n) {
        if (shelf < 0 || shelf > 5 || n < 1 || n > 10) return BAD;
        if (shelves[shelf] == null) return 0;
        if (!(shelves[shelf] instanceof Row)) return -12;
        Row r = (Row) shelves[shelf];
        if (r.sort != 0) return -12;
        if (i < 0) return 0;
        int came = 0;
        for (long at = i; came < n && at + 2 < r.e.length && stars.size() < 10; at += 3) {
            long c = r.e[(int) at], b = r.e[(int) at + 1], s = r.e[(int) at + 2];
            if (c < 0 || c > 47 || b < 1 || b > 9 || s < 0 || s > 9 || starAt((int) c) >= 0) break;
            Star x = new Star();
            x.cell = (int) c;
            x.bright = (int) b;
            x.sticky = (int) s;
            stars.add(x);
            came++;
        }
        return came;
    }

    int thrower(int flat) {
        if (flat < 0 || flat > 9) return BAD;
        if (throwers.size() == 4) return FULL;
        Thrower t = new Thrower();
        t.flat = flat;
        throwers.add(t);
        return throwers.size() - 1;
    }

    int ship(int needs) {
        if (needs < 1 || needs > 1023) return BAD;
        if (ships.size() == 6) return FULL;
        ships.add(needs);
        return ships.size() - 1;
    }

    boolean there(int number, int what) {
        if (what < 0 || what > 11) return false;
        if (what <= 5) return isStar(number);
        if (what <= 7) return isThrower(number);
        if (what == 8) return isShip(number);
        return number == 0;
    }

    int read(int number, int what) {
        switch (what) {
            case 0: return stars.get(number).cell;
            case 1: return stars.get(number).bright;
            case 2: return stars.get(number).sticky;
            case 3: return stars.get(number).arms;
            case 4: return stars.get(number).up;
            case 5: return stars.get(number).gone;
            case 6: return throwers.get(number).flat;
            case 7: return throwers.get(number).speed;
            case 8: return ships.get(number);
            case 9: return minute;
            case 10: return dawn;
            default: return seed;
        }
    }

    void write(int number, int what, int v) {
        switch (what) {
            case 0: stars.get(number).cell = v; break;
            case 1: stars.get(number).bright = v; break;
            case 2: stars.get(number).sticky = v; break;
            case 3: stars.get(number).arms = v; break;
            case 4: stars.get(number).up = v; break;
            case 5: stars.get(number).gone = v; break;
            case 6: throwers.get(number).flat = v; break;
            case 7: throwers.get(number).speed = v; break;
            case 8: ships.set(number, v); break;
            case 9: minute = v; break;
            case 10: dawn = v; break;
            default: seed = v;
        }
    }

    static boolean allowed(int what, int v) {
        switch (what) {
            case 0: return v >= 0 && v <= 47;
            case 1: case 7: return v >= 1 && v <= 9;
            case 2: case 3: case 6: return v >= 0 && v <= 9;
            case 4: case 5: return v == 0 || v == 1;
            case 8: return v >= 1 && v <= 1023;
            case 9: case 10: return v >= 0 && v <= 999;
            default: return true;
        }
    }

    int mend(int number, int what, int v) {
        if (!there(number, what) || !allowed(what, v)) return VOID;
        if (what == 0 && starAt(v) >= 0 && starAt(v) != number) return VOID;
        int was = read(number, what);
        if (was == v) return was;
        Change c = new Change();
        c.number = number;
        c.what = what;
        c.was = was;
        c.is = v;
        changes.add(c);
        if (changes.size() > 40) changes.remove(0);
        undone.clear();
        write(number, what, v);
        return was;
    }

    int of(int number, int what) {
        if (what == 12) return number < 0 || number > 47 ? VOID : starAt(number);
        return there(number, what) ? read(number, what) : VOID;
    }

    int undo() {
        if (changes.isEmpty()) return STATE;
        Change c = changes.remove(changes.size() - 1);
        undone.add(c);
        lay(c, c.was);
        return changes.size();
    }

    int redo() {
        if (undone.isEmpty()) return STATE;
        Change c = undone.remove(undone.size() - 1);
        changes.add(c);
        lay(c, c.is);
        return undone.size();
    }

    private void lay(Change c, int v) {
        if (c.what == 0 && starAt(v) >= 0 && starAt(v) != c.number) return;
        write(c.number, c.what, v);
    }

    // ---- the law
    int feed(int letter) {
        if (letter < 0 || letter > 255) return BAD;
        if (tape.size() == 120) return FULL;
        tape.add(letter);
        return tape.size();
    }

    int law() {
        StringBuilder b = new StringBuilder();
        for (int t : tape) b.append((char) t);
        tape.clear();
        int fault = fault(b.toString());
        if (fault >= 0) return -100 - fault;
        law = b.toString();
        return 1;
    }

    /** A machine with a stack of brackets; -1: a text. */
    static int fault(String t) {
        Deque<int[]> frames = new ArrayDeque<>(); // each: whether it compared, signs pending
        frames.push(new int[2]);
        boolean wants = true, asked = false;
        int digits = 0, open = 0;
        for (int i = 0; i < t.length(); i++) {
            char c = t.charAt(i);
            int[] top = frames.peek();
            boolean digit = c >= '0' && c <= '9';
            if (wants) {
                if (c == '(' || c == '!' || c == '-') {
                    if (open == 6) return i;
                    open++;
                    if (c == '(') frames.push(new int[2]);
                    else top[1]++;
                } else if (digit || "fsbyam".indexOf(c) >= 0) {
                    open -= top[1];
                    top[1] = 0;
                    digits = digit ? 1 : 4;
                    wants = false;
                } else {
                    return i;
                }
                continue;
            }
            if (digit) {
                if (digits >= 4) return i;
                digits++;
                continue;
            }
            digits = 4;
            switch (c) {
                case '|': case '&': top[0] = 0; wants = true; break;
                case '<': case '=': case '>':
                    if (top[0] == 1) return i;
                    top[0] = 1;
                    wants = true;
                    break;
                case '+': case '-': case '*': case '/': case '%': wants = true; break;
                case ')':
                    if (frames.size() == 1) return i;
                    frames.pop();
                    open--;
                    open -= frames.peek()[1];
                    frames.peek()[1] = 0;
                    break;
                case '?':
                    if (frames.size() > 1 || asked) return i;
                    asked = true;
                    top[0] = 0;
                    wants = true;
                    break;
                case ';':
                    if (frames.size() > 1) return i;
                    asked = false;
                    top[0] = 0;
                    wants = true;
                    break;
                default: return i;
            }
        }
        return wants || frames.size() > 1 ? t.length() : -1;
    }

    int odds(Star s, Thrower t, int m) {
        int y = s.cell / 8;
        int v;
        if (law == null) {
            v = 6 + t.flat / 2 + s.sticky / 3 - s.bright / 3 - y / 2;
        } else {
            Map<Character, Integer> names = new TreeMap<>();
            names.put('f', t.flat);
            names.put('s', s.sticky);
            names.put('b', s.bright);
            names.put('y', y);
            names.put('a', s.arms);
            names.put('m', m);
            v = lines(law, names);
        }
        return v < 0 ? 0 : v > 12 ? 12 : v;
    }

    static int lines(String text, Map<Character, Integer> names) {
        for (String line : text.split(";")) {
            int q = line.indexOf('?');
            if (q < 0) return cut(line, 0, names);
            if (cut(line.substring(0, q), 0, names) != 0) return cut(line.substring(q + 1), 0, names);
        }
        return 0;
    }

    private static final String[] JOINING = {"|", "&", "<=>", "+-", "*/%"};

    /** Cuts at the last sign of the rank that joins two parts and stands in no brackets. */
    static int cut(String t, int rank, Map<Character, Integer> names) {
        if (rank == 5) {
            char c = t.charAt(0);
            if (c == '!') return cut(t.substring(1), 5, names) == 0 ? 1 : 0;
            if (c == '-') return -cut(t.substring(1), 5, names);
            if (c == '(') return cut(t.substring(1, t.length() - 1), 0, names);
            if (names.containsKey(c)) return names.get(c);
            return Integer.parseInt(t);
        }
        int deep = 0;
        for (int i = t.length() - 1; i > 0; i--) {
            char c = t.charAt(i), before = t.charAt(i - 1);
            if (c == ')') deep++;
            if (c == '(') deep--;
            boolean joins = before == ')' || Character.isLetterOrDigit(before);
            if (deep == 0 && joins && JOINING[rank].indexOf(c) >= 0) {
                int l = cut(t.substring(0, i), rank, names), r = cut(t.substring(i + 1), rank + 1, names);
                switch (c) {
                    case '|': return (l != 0) | (r != 0) ? 1 : 0;
                    case '&': return (l != 0) & (r != 0) ? 1 : 0;
                    case '<': return l < r ? 1 : 0;
                    case '=': return l == r ? 1 : 0;
                    case '>': return l > r ? 1 : 0;
                    case '+': return (int) ((long) l + r);
                    case '-': return (int) ((long) l - r);
                    case '*': return (int) ((long) l * r);
                    case '/': return r == 0 ? 0 : (int) ((long) l / r);
                    default: return r == 0 ? 0 : (int) ((long) l % r);
                }
            }
        }
        return cut(t, rank + 1, names);
    }

    boolean isThrow(int st) { return st >= 0 && isStar(st / 10) && isThrower(st % 10); }

    int odds(int st) {
        return isThrow(st) ? odds(stars.get(st / 10), throwers.get(st % 10), minute) : BAD;
    }

    // ---- plans
    int refusal(int shelf) {
        if (shelf < 0 || shelf > 5) return BAD;
        if (shelves[shelf] == null) return -11;
        return shelves[shelf] instanceof Row && ((Row) shelves[shelf]).sort == 0 ? 0 : -12;
    }

    List<Throw> plan(int shelf) {
        long[] e = ((Row) shelves[shelf]).e;
        List<Throw> all = new ArrayList<>();
        Set<Integer> seen = new HashSet<>();
        Map<Integer, Integer> thrown = new TreeMap<>();
        for (int i = 0; i + 1 < e.length && i < 20; i += 2) {
            Throw t = new Throw();
            t.star = (int) e[i];
            t.thrower = (int) e[i + 1];
            if (!isStar(t.star) || !isThrower(t.thrower)) break;
            if (stars.get(t.star).gone == 1 || !seen.add(t.star)) break;
            int before = thrown.getOrDefault(t.thrower, 0);
            thrown.put(t.thrower, before + 1);
            t.minute = minute + before * throwers.get(t.thrower).speed;
            t.odds = odds(stars.get(t.star), throwers.get(t.thrower), Math.min(999, t.minute));
            all.add(t);
        }
        return all;
    }

    int flung(int shelf, int k) {
        if (k < -1) return BAD;
        if (refusal(shelf) != 0) return refusal(shelf);
        List<Throw> p = plan(shelf);
        if (k >= p.size()) return NOT;
        if (k >= 0) return Math.min(999, p.get(k).minute);
        int end = minute;
        for (Throw t : p) end = Math.max(end, t.minute + throwers.get(t.thrower).speed);
        return end;
    }

    private static long lowest(BigInteger above, BigInteger below, int part) {
        BigInteger g = above.gcd(below);
        return (part == 0 ? above : below).divide(g).longValueExact();
    }

    long likely(int shelf, int part) {
        if (refusal(shelf) != 0 || part < 0 || part > 1) return Long.MIN_VALUE;
        BigInteger above = BigInteger.ONE, below = BigInteger.ONE;
        for (Throw t : plan(shelf)) {
            above = above.multiply(BigInteger.valueOf(t.odds));
            below = below.multiply(BigInteger.valueOf(12));
        }
        return lowest(above, below, part);
    }

    long mean(int shelf, int part) {
        if (refusal(shelf) != 0 || part < 0 || part > 1) return Long.MIN_VALUE;
        long above = 0;
        for (Throw t : plan(shelf)) above += t.odds;
        return lowest(BigInteger.valueOf(above), BigInteger.valueOf(12), part);
    }

    /** All deals in the order of their numbers, the first star's thrower foremost. */
    int dealt(int k) {
        if (k < -1) return BAD;
        if (throwers.isEmpty()) return NOT;
        int n = 0;
        for (Star s : stars) if (s.up == 0 && s.gone == 0) n++;
        if (n > 6) return STATE;
        if (k >= n) return NOT;
        int[] deal = new int[n], best = null;
        int bestEnd = Integer.MAX_VALUE;
        while (true) {
            int[] ends = new int[throwers.size()];
            int end = 0;
            for (int d : deal) {
                ends[d] += throwers.get(d).speed;
                end = Math.max(end, ends[d]);
            }
            if (end < bestEnd) {
                bestEnd = end;
                best = deal.clone();
            }
            int at = n - 1;
            while (at >= 0 && deal[at] == throwers.size() - 1) deal[at--] = 0;
            if (at < 0) break;
            deal[at]++;
        }
        return k == -1 ? bestEnd : best[k];
    }

    int dropOf(Star s) { return Math.max(0, dawn + 3 * s.sticky + s.arms - s.bright); }

    int drops(int star) {
        if (!isStar(star)) return BAD;
        return stars.get(star).up == 1 ? dropOf(stars.get(star)) : NOT;
    }

    int upBy(int m) {
        if (m < -1 || m > 1999) return BAD;
        int first = NOT, still = 0;
        for (int i = stars.size() - 1; i >= 0; i--) {
            Star s = stars.get(i);
            if (s.up == 0) continue;
            if (first == NOT || dropOf(s) <= dropOf(stars.get(first))) first = i;
            if (dropOf(s) > m) still++;
        }
        return m == -1 ? first : still;
    }

    int sand(Star s) { return (s.cell % 8 * 3 + s.sticky) % 24; }

    int lies(int star) { return isStar(star) ? sand(stars.get(star)) : BAD; }

    /** All stretches round the place, and what it costs to have been at both ends. */
    int walk(int place, int t, int what) {
        if (place < 0 || place > 23 || t < 0 || t > 40 || what < 0 || what > 1) return BAD;
        int best = -1, left = 99;
        for (int from = 0; from <= place; from++) {
            for (int to = place; to < 24; to++) {
                int l = place - from, r = to - place;
                if (l + r + Math.min(l, r) > t) continue;
                int sum = 0;
                for (Star s : stars) if (s.up == 1 && sand(s) >= from && sand(s) <= to) sum += s.bright;
                if (sum > best || sum == best && l < left) {
                    best = sum;
                    left = l;
                }
            }
        }
        return what == 0 ? best : left;
    }

    // ---- ships, patterns
    Set<Integer> ups() {
        Set<Integer> up = new HashSet<>();
        for (int i = 0; i < stars.size(); i++) if (stars.get(i).up == 1) up.add(i);
        return up;
    }

    int steering(Set<Integer> up) {
        int bits = 0;
        for (int s = 0; s < ships.size(); s++) {
            for (int star : up) if ((ships.get(s) >> star & 1) == 1) bits |= 1 << s;
        }
        return bits;
    }

    int steer() { return steering(ups()); }

    static Set<Integer> setOf(int bits) {
        Set<Integer> set = new HashSet<>();
        for (int i = 0; i < 10; i++) if ((bits >> i & 1) == 1) set.add(i);
        return set;
    }

    int fewest(int what) {
        if (what < 0 || what > 3) return BAD;
        int all = (1 << ships.size()) - 1;
        for (int many = 0; many <= 10; many++) {
            for (int bits = 0; bits < 1024; bits++) {
                if (Integer.bitCount(bits) != many) continue;
                Set<Integer> set = setOf(bits);
                boolean fits = steering(set) == all;
                for (int s : set) fits &= isStar(s) && stars.get(s).gone == 0;
                if (what >= 2 && fits) {
                    for (int dropped : set) {
                        Set<Integer> rest = new HashSet<>(set);
                        rest.remove(dropped);
                        fits &= steering(rest) == all;
                    }
                }
                if (fits) return what % 2 == 0 ? many : bits;
            }
        }
        return NOT;
    }

    int home(int shelf, int what) {
        if (what < 0 || what > 1) return BAD;
        if (refusal(shelf) != 0) return refusal(shelf);
        long[] e = ((Row) shelves[shelf]).e;
        int sets = 0, least = -1;
        for (int wrong = 0; wrong < 1024; wrong++) {
            Set<Integer> right = ups();
            if (!right.containsAll(setOf(wrong))) continue;
            right.removeAll(setOf(wrong));
            int steers = steering(right);
            boolean so = true;
            for (int i = 0; i + 1 < e.length && i < 24; i += 2) {
                if (!isShip((int) e[i]) || e[i + 1] < 0 || e[i + 1] > 1) break;
                so &= (steers >> e[i] & 1) == e[i + 1];
            }
            if (!so) continue;
            sets++;
            if (least < 0 || Integer.bitCount(wrong) < Integer.bitCount(least)) least = wrong;
        }
        return what == 0 ? sets : sets == 0 ? NOT : least;
    }

    int pattern(int shelf, int what) {
        if (what < 0 || what > 3) return BAD;
        if (refusal(shelf) != 0) return refusal(shelf);
        long[] e = ((Row) shelves[shelf]).e;
        int many = 0, first = NOT;
        for (int code = 0; code < 165; code++) {
            int dx = code % 15 - 7, dy = code / 15 - 5;
            boolean all = true;
            for (int i = 0; i < e.length && i < 8; i++) {
                if (e[i] < 0 || e[i] > 47) break;
                int x = (int) e[i] % 8, y = (int) e[i] / 8 + dy;
                x = (what >= 2 ? 7 - x : x) + dx;
                all &= x >= 0 && x <= 7 && y >= 0 && y <= 5 && starAt(8 * y + x) >= 0;
            }
            if (all && many++ == 0) first = code;
        }
        return what % 2 == 0 ? many : first;
    }

    int byTurns(int n, int what) {
        if (n < 1 || n > 4 || what < 0 || what > 1) return BAD;
        int up = 0, gone = 0;
        for (int i = 0; i < stars.size(); i++) {
            up |= stars.get(i).up << i;
            gone |= stars.get(i).gone << i;
        }
        int best = turns(up, gone, n - 1, 1), first = 10;
        for (int i = 0; i < stars.size(); i++) {
            if (((up | gone) >> i & 1) == 1) continue;
            int v = turns(up | 1 << i, gone, n - 1, 1);
            if (v > best) {
                best = v;
                first = i;
            }
        }
        return what == 0 ? best : first;
    }

    private int turns(int up, int gone, int left, int turn) {
        if (left == 0) {
            int many = 0;
            for (int needs : ships) if ((needs & up) != 0) many++;
            return many;
        }
        int best = turns(up, gone, left - 1, turn + 1);
        for (int i = 0; i < stars.size(); i++) {
            boolean isUp = (up >> i & 1) == 1, isGone = (gone >> i & 1) == 1;
            if (turn % 2 == 0 ? isUp || isGone : !isUp) continue;
            int v = turns(up ^ 1 << i, gone, left - 1, turn + 1);
            best = turn % 2 == 0 ? Math.max(best, v) : Math.min(best, v);
        }
        return best;
    }

    static int after(int z) {
        return BigInteger.valueOf(z).multiply(BigInteger.valueOf(1103515245)).add(BigInteger.valueOf(12345)).intValue();
    }

    static boolean hits(int z, int odds) { return ((z & 0xFFFFFFFFL) >> 8) % 12 < odds; }

    int drawn(int seed, int shelf, int n, int star) {
        if (n < 1 || n > 30 || star != -1 && !isStar(star)) return BAD;
        if (refusal(shelf) != 0) return refusal(shelf);
        int z = seed, sum = 0;
        for (int night = 0; night < n; night++) {
            Set<Integer> up = ups();
            for (Throw t : plan(shelf)) {
                z = after(z);
                if (hits(z, t.odds)) up.add(t.star);
            }
            if (star == -1) sum += Integer.bitCount(steering(up));
            else if (up.contains(star)) sum++;
        }
        return sum;
    }

    // ---- in deed
    int fling(int st) {
        if (!isThrow(st)) return BAD;
        Star s = stars.get(st / 10);
        Thrower t = throwers.get(st % 10);
        if (s.up == 1 || s.gone == 1) return STATE;
        int o = odds(s, t, minute);
        seed = after(seed);
        boolean hit = hits(seed, o);
        led[0]++;
        if (hit) {
            s.up = 1;
            led[1]++;
        }
        led[4] += t.speed;
        minute = Math.min(999, minute + t.speed);
        return hit ? 1 : 0;
    }

    int pass(int minutes) {
        if (minutes < 1 || minutes > 999) return BAD;
        led[4] += minutes;
        minute = Math.min(999, minute + minutes);
        int many = 0;
        for (Star s : stars) {
            if (s.up == 1 && dropOf(s) <= minute) {
                s.up = 0;
                many++;
            }
        }
        led[2] += many;
        return many;
    }

    int pocket(int star) {
        if (!isStar(star)) return BAD;
        Star s = stars.get(star);
        if (s.gone == 1) return STATE;
        int was = s.up;
        s.up = 0;
        s.gone = 1;
        led[3]++;
        return was;
    }

    int led(int what) { return what < 0 || what > 4 ? BAD : led[what]; }

    int image() {
        List<Integer> all = new ArrayList<>(List.of(minute, seed));
        for (int l : led) all.add(l);
        for (Star s : stars) {
            all.add(s.up);
            all.add(s.gone);
        }
        image = all.stream().mapToInt(i -> i).toArray();
        return led[0];
    }

    int back() {
        if (image == null) return STATE;
        minute = image[0];
        seed = image[1];
        led = Arrays.copyOfRange(image, 2, 7);
        for (int i = 7; i < image.length; i += 2) {
            stars.get((i - 7) / 2).up = image[i];
            stars.get((i - 7) / 2).gone = image[i + 1];
        }
        return led[0];
    }

    // ---- acts, shelves: here Java itself looks for the body
    interface Sticks {
        Model model();
        int n();
        default int sticks(int x) { model().trace.add(1); return x + n(); }
    }
    interface Tells {
        Model model();
        int drops(int x);
        int lies(int x);
        default int tells(int x) { model().trace.add(2); return drops(x) - lies(1); }
    }
    static class Arm implements Sticks, Tells {
        Model model;
        int n, kind;
        public Model model() { return model; }
        public int n() { return n; }
        public int drops(int x) { model.trace.add(10); return sticks(x) * 2; }
        public int lies(int x) { model.trace.add(11); return x ^ n; }
    }
    static class Lyre extends Arm {
        public int sticks(int x) { model.trace.add(20); return super.sticks(x) + 3; }
    }
    static class Heap extends Arm {
        public int drops(int x) { model.trace.add(30); return -super.drops(x); }
    }
    static class Fling extends Heap {
        public int lies(int x) { model.trace.add(40); return super.lies(x) * 3; }
        public int drops(int x) { model.trace.add(41); return super.drops(x + 1); }
    }
    static class MapKind extends Lyre {
        public int tells(int x) { model.trace.add(50); return super.tells(x) ^ 5; }
    }
    static class Drip extends Fling {
        public int lies(int x) { model.trace.add(60); return super.lies(x) - sticks(2); }
        public int tells(int x) { model.trace.add(61); return super.tells(x) + 1; }
    }
    static class Goole extends Arm {
        public int sticks(int x) { model.trace.add(70); return super.sticks(x) * 2; }
    }
    static class Pocket extends Goole {
        public int drops(int x) { model.trace.add(80); return super.drops(x) + lies(2); }
        public int sticks(int x) { model.trace.add(81); return super.sticks(x) - 1; }
    }

    static Arm newArm(int kind) {
        switch (kind) {
            case 0: return new Arm();
            case 1: return new Lyre();
            case 2: return new Heap();
            case 3: return new Fling();
            case 4: return new MapKind();
            case 5: return new Drip();
            case 6: return new Goole();
            default: return new Pocket();
        }
    }

    int body(int kind) {
        if (kind < 0 || kind > 7) return BAD;
        if (bodies.size() == 50) return FULL;
        Arm a = newArm(kind);
        a.model = this;
        a.n = bodies.size();
        a.kind = kind;
        bodies.add(a);
        return a.n;
    }

    int act(int body, int act, int x) {
        trace = new ArrayList<>();
        if (body < 0 || body >= bodies.size()) return 0;
        Arm a = bodies.get(body);
        switch (act) {
            case 0: return a.sticks(x);
            case 1: return a.drops(x);
            case 2: return a.lies(x);
            case 3: return a.tells(x);
            default: return 0;
        }
    }

    int trace(int i) { return i < 0 || i >= Math.min(24, trace.size()) ? BAD : trace.get(i); }

    int keep(int shelf, int body) {
        if (shelf < 0 || shelf > 5 || body < -1 || body >= bodies.size()) return BAD;
        shelves[shelf] = body == -1 ? null : bodies.get(body);
        return 1;
    }

    int row(int shelf, int sort, int n) {
        if (shelf < 0 || shelf > 5 || sort < 0 || sort > 4 || n > 60) return BAD;
        if (n < 0) return -14;
        Row r = new Row();
        r.sort = sort;
        r.e = new long[n];
        shelves[shelf] = r;
        return 1;
    }

    private int place(int shelf, int i) {
        if (shelf < 0 || shelf > 5) return BAD;
        if (shelves[shelf] == null) return -11;
        if (!(shelves[shelf] instanceof Row)) return -12;
        return i < 0 || i >= ((Row) shelves[shelf]).e.length ? -13 : 1;
    }

    int put(int shelf, int i, long v) {
        if (place(shelf, i) != 1) return place(shelf, i);
        Row r = (Row) shelves[shelf];
        Map<Integer, Integer> bits = new LinkedHashMap<>(Map.of(0, 8, 1, 16, 2, 32, 3, 64));
        if (r.sort == 4) r.e[i] = v == 0 ? 0 : 1;
        else r.e[i] = v << 64 - bits.get(r.sort) >> 64 - bits.get(r.sort);
        return 1;
    }

    long element(int shelf, int i) {
        return place(shelf, i) == 1 ? ((Row) shelves[shelf]).e[i] : Long.MIN_VALUE;
    }

    int shift(int shelf, int i, int other, int j, int n) {
        if (shelf < 0 || shelf > 5 || other < 0 || other > 5) return BAD;
        if (shelves[shelf] == null || shelves[other] == null) return -11;
        if (!(shelves[shelf] instanceof Row) || !(shelves[other] instanceof Row)) return -12;
        Row a = (Row) shelves[shelf], b = (Row) shelves[other];
        if (a.sort != b.sort) return -12;
        if (i < 0 || j < 0 || n < 0 || (long) i + n > a.e.length || (long) j + n > b.e.length) return -13;
        long[] copy = a.e.clone();
        for (int k = 0; k < n; k++) b.e[j + k] = copy[i + k];
        return n;
    }

    int taken(int shelf, int k) {
        if (shelf < 0 || shelf > 5 || k < 0 || k > 7) return BAD;
        if (shelves[shelf] == null) return -11;
        if (!newArm(k).getClass().isInstance(shelves[shelf])) return -12;
        return ((Arm) shelves[shelf]).kind;
    }

    int count(int what) {
        switch (what) {
            case 0: return stars.size();
            case 1: return ups().size();
            case 2: return tape.size();
            case 3: return changes.size();
            case 4: return bodies.size();
            case 5: return trace.size();
            case 6: return throwers.size();
            case 7: return ships.size();
            default: return BAD;
        }
    }
}
