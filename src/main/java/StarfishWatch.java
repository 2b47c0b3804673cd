/**
 * The night watch of ../shared/DOC.md: a sky done in pieces, plans of throws, ships that
 * steer by stars, deeds that are led, and the host's bodies and shelves.
 *
 * Every row is made once, in a constructor, because all calls of a run share one room.
 */
public final class StarfishWatch {
    public static final int BAD = -1, NOT = -2, FULL = -3, STATE = -5, VOID = -2000000000;

    /** The host's refusals. */
    private static final int MISSING = -11, UNLIKE = -12, NO_PLACE = -13, NO_SIZE = -14;
    private static final long NO_LONG = -9223372036854775808L;

    private static final int SHELVES = 6, SAND = 24, MOST_STEPS = 40, LATEST_ASKED = 1999;
    private static final int MOST_NIGHTS = 30, MOST_TURNS = 4, MOST_DEALT = 6, MOST_PASSED = 999;

    private final Sky sky;
    private final Fleet fleet;
    private final Chart chart;
    private final Finder finder;
    private final Plan plan;
    private final Tape tape;
    private final Changes changes;
    private final Image kept;
    private final Arms arms;
    private final Shelf[] shelves;
    /** Two laws, so that a tape that is no text leaves the one in force as it is. */
    private Law inForce, spare;

    public StarfishWatch() {
        Sky rock = new Sky();
        sky = rock;
        fleet = new Fleet(rock);
        chart = new Chart(rock);
        finder = new Finder(rock);
        plan = new Plan();
        tape = new Tape();
        changes = new Changes();
        kept = new Image();
        arms = new Arms();
        shelves = new Shelf[SHELVES];
        for (int i = 0; i < SHELVES; i++) {
            shelves[i] = new Shelf();
        }
        inForce = new Law();
        spare = new Law();
    }

    // ---- stars, throwers, ships

    public int star(int cell) {
        return sky.addStar(cell, Sky.AT_FIRST, Sky.AT_FIRST);
    }

    public int stars(int shelf, int i, int n) {
        Shelf from = shelfAt(shelf);
        if (from == null || n < 1 || n > Sky.MOST_STARS) {
            return BAD;
        }
        if (from.isEmpty()) {
            return 0;
        }
        if (!from.isBytes()) {
            return UNLIKE;
        }
        int came = 0;
        while (came < n && starCame(from, i, came)) {
            came++;
        }
        return came;
    }

    public int thrower(int flat) {
        return sky.addThrower(flat);
    }

    public int ship(int needs) {
        return sky.addShip(needs);
    }

    public int mend(int number, int what, int v) {
        if (!sky.has(what, number) || !sky.mayBe(what, v)) {
            return VOID;
        }
        if (what == Sky.CELL && sky.isTakenByOther(v, number)) {
            return VOID;
        }
        int was = sky.get(what, number);
        if (was != v) {
            sky.set(what, number, v);
            changes.add(what, number, was, v);
        }
        return was;
    }

    public int of(int number, int what) {
        if (what == Sky.WHATS) {
            return sky.mayBe(Sky.CELL, number) ? sky.starIn(number) : VOID;
        }
        return sky.has(what, number) ? sky.get(what, number) : VOID;
    }

    public int feed(int letter) {
        return letter < 0 || letter > 255 ? BAD : tape.add(letter);
    }

    public int law() {
        int fault = tape.faultInto(spare);
        tape.clear();
        if (fault >= 0) {
            return -100 - fault;
        }
        Law told = spare;
        spare = inForce;
        inForce = told;
        return 1;
    }

    public int odds(int st) {
        return sky.isThrow(st) ? oddsNow(st / 10, st % 10) : BAD;
    }

    // ---- plans

    public int flung(int shelf, int k) {
        Shelf row = shelfAt(shelf);
        if (row == null || k < -1) {
            return BAD;
        }
        if (!row.isBytes()) {
            return row.refusal();
        }
        plan.read(row, sky, inForce);
        if (k == -1) {
            return plan.done;
        }
        return k < plan.size ? plan.minute[k] : NOT;
    }

    public long likely(int shelf, int part) {
        Shelf row = shelfAt(shelf);
        if (row == null || !row.isBytes() || part < 0 || part > 1) {
            return NO_LONG;
        }
        plan.read(row, sky, inForce);
        long above = 1, below = 1;
        for (int k = 0; k < plan.size; k++) {
            above *= plan.odds[k];
            below *= Law.TWELVE;
        }
        return partOf(above, below, part);
    }

    public long mean(int shelf, int part) {
        Shelf row = shelfAt(shelf);
        if (row == null || !row.isBytes() || part < 0 || part > 1) {
            return NO_LONG;
        }
        plan.read(row, sky, inForce);
        long above = 0;
        for (int k = 0; k < plan.size; k++) {
            above += plan.odds[k];
        }
        return partOf(above, Law.TWELVE, part);
    }

    public int dealt(int k) {
        if (k < -1) {
            return BAD;
        }
        if (sky.throwers == 0) {
            return NOT;
        }
        int waiting = Integer.bitCount(sky.waiting());
        if (waiting > MOST_DEALT) {
            return STATE;
        }
        int minutes = minutesToDeal(waiting);
        if (k == -1) {
            return minutes;
        }
        return k < waiting ? throwerOfDealt(k, minutes) : NOT;
    }

    public int drops(int star) {
        if (!sky.has(Sky.CELL, star)) {
            return BAD;
        }
        return sky.get(Sky.UP, star) == 0 ? NOT : sky.dropMinute(star);
    }

    public int upBy(int minute) {
        if (minute < -1 || minute > LATEST_ASKED) {
            return BAD;
        }
        if (minute == -1) {
            return sky.firstToDrop();
        }
        return Integer.bitCount(sky.upAfter(minute));
    }

    public int lies(int star) {
        return sky.has(Sky.CELL, star) ? sky.placeOnSand(star) : BAD;
    }

    public int walk(int place, int t, int what) {
        if (place < 0 || place >= SAND || t < 0 || t > MOST_STEPS || what < 0 || what > 1) {
            return BAD;
        }
        finder.look(place, t);
        return what == 0 ? finder.most : finder.left;
    }

    // ---- ships, patterns

    public int steer() {
        return fleet.steering(sky.bits(Sky.UP));
    }

    public int fewest(int what) {
        if (what < 0 || what > 3) {
            return BAD;
        }
        int each = what < 2 ? 1 : 2;
        int bits = fleet.fewestFor(each);
        if (bits < 0) {
            return NOT;
        }
        return what % 2 == 0 ? Integer.bitCount(bits) : bits;
    }

    public int home(int shelf, int what) {
        Shelf row = shelfAt(shelf);
        if (row == null || what < 0 || what > 1) {
            return BAD;
        }
        if (!row.isBytes()) {
            return row.refusal();
        }
        fleet.readHomes(row);
        fleet.findWrong();
        if (what == 0) {
            return fleet.sets;
        }
        return fleet.sets == 0 ? NOT : fleet.wrong;
    }

    public int pattern(int shelf, int what) {
        Shelf row = shelfAt(shelf);
        if (row == null || what < 0 || what > 3) {
            return BAD;
        }
        if (!row.isBytes()) {
            return row.refusal();
        }
        chart.read(row, what >= 2);
        chart.findMoves();
        if (what % 2 == 0) {
            return chart.moves;
        }
        return chart.moves == 0 ? NOT : chart.first;
    }

    public int byTurns(int n, int what) {
        if (n < 1 || n > MOST_TURNS || what < 0 || what > 1) {
            return BAD;
        }
        fleet.playTurns(n);
        return what == 0 ? fleet.reached : fleet.opening;
    }

    public int drawn(int seed, int shelf, int n, int star) {
        Shelf row = shelfAt(shelf);
        if (row == null || n < 1 || n > MOST_NIGHTS) {
            return BAD;
        }
        if (star != -1 && !sky.has(Sky.CELL, star)) {
            return BAD;
        }
        if (!row.isBytes()) {
            return row.refusal();
        }
        plan.read(row, sky, inForce);
        plan.z = seed;
        int sum = 0;
        for (int night = 0; night < n; night++) {
            int up = plan.nightFrom(sky.bits(Sky.UP));
            sum += star == -1 ? Integer.bitCount(fleet.steering(up)) : up >> star & 1;
        }
        return sum;
    }

    // ---- in deed

    public int fling(int st) {
        if (!sky.isThrow(st)) {
            return BAD;
        }
        int star = st / 10, thrower = st % 10;
        if (sky.get(Sky.UP, star) != 0 || sky.get(Sky.GONE, star) != 0) {
            return STATE;
        }
        int odds = oddsNow(star, thrower);
        int z = Plan.next(sky.get(Sky.SEED, 0));
        int stuck = Plan.sticks(z, odds) ? 1 : 0;
        sky.set(Sky.SEED, 0, z);
        sky.set(Sky.UP, star, stuck);
        sky.led[Sky.THROWS]++;
        sky.led[Sky.STUCK] += stuck;
        sky.goOn(sky.get(Sky.SPEED, thrower));
        return stuck;
    }

    public int pass(int minutes) {
        if (minutes < 1 || minutes > MOST_PASSED) {
            return BAD;
        }
        sky.goOn(minutes);
        return sky.dropDue();
    }

    public int pocket(int star) {
        if (!sky.has(Sky.CELL, star)) {
            return BAD;
        }
        if (sky.get(Sky.GONE, star) != 0) {
            return STATE;
        }
        int wasUp = sky.get(Sky.UP, star);
        sky.set(Sky.GONE, star, 1);
        sky.set(Sky.UP, star, 0);
        sky.led[Sky.POCKETED]++;
        return wasUp;
    }

    public int led(int what) {
        return what < 0 || what >= Sky.LEDS ? BAD : sky.led[what];
    }

    public int image() {
        kept.takeOf(sky);
        return sky.led[Sky.THROWS];
    }

    public int back() {
        if (!kept.isTaken) {
            return STATE;
        }
        kept.layOn(sky);
        return sky.led[Sky.THROWS];
    }

    public int undo() {
        return changes.takeBack(sky);
    }

    public int redo() {
        return changes.doAgain(sky);
    }

    // ---- acts, shelves

    public int body(int kind) {
        return arms.add(kind);
    }

    public int act(int body, int act, int x) {
        return arms.actOf(body, act, x);
    }

    public int trace(int i) {
        return i >= 0 && i < arms.traced() ? arms.trail[i] : BAD;
    }

    public int keep(int shelf, int body) {
        Shelf on = shelfAt(shelf);
        if (on == null || body < -1 || body >= arms.bodies) {
            return BAD;
        }
        if (body == -1) {
            on.holdNothing();
        } else {
            on.holdBody(body);
        }
        return 1;
    }

    public int row(int shelf, int sort, int n) {
        Shelf on = shelfAt(shelf);
        if (on == null || sort < Shelf.BYTES || sort > Shelf.BOOLEANS || n > Shelf.MOST) {
            return BAD;
        }
        if (n < 0) {
            return NO_SIZE;
        }
        on.holdRow(sort, n);
        return 1;
    }

    public int put(int shelf, int i, long v) {
        Shelf on = shelfAt(shelf);
        if (on == null) {
            return BAD;
        }
        if (!on.isRow()) {
            return on.refusal();
        }
        if (!on.hasPlace(i)) {
            return NO_PLACE;
        }
        on.write(i, v);
        return 1;
    }

    public long element(int shelf, int i) {
        Shelf on = shelfAt(shelf);
        if (on == null || !on.isRow() || !on.hasPlace(i)) {
            return NO_LONG;
        }
        return on.elements[i];
    }

    public int shift(int shelf, int i, int other, int j, int n) {
        Shelf from = shelfAt(shelf), to = shelfAt(other);
        if (from == null || to == null) {
            return BAD;
        }
        if (from.isEmpty() || to.isEmpty()) {
            return MISSING;
        }
        if (!from.isRow() || from.holds != to.holds) {
            return UNLIKE;
        }
        if (n < 0 || !from.hasRun(i, n) || !to.hasRun(j, n)) {
            return NO_PLACE;
        }
        System.arraycopy(from.elements, i, to.elements, j, n);
        return n;
    }

    public int taken(int shelf, int k) {
        Shelf on = shelfAt(shelf);
        if (on == null || k < 0 || k >= Arms.KINDS) {
            return BAD;
        }
        if (!on.isBody()) {
            return on.refusal();
        }
        int kind = arms.kindOf(on.body);
        return Arms.isUnder(kind, k) ? kind : UNLIKE;
    }

    public int count(int what) {
        switch (what) {
            case 0: return sky.stars;
            case 1: return Integer.bitCount(sky.bits(Sky.UP));
            case 2: return tape.length;
            case 3: return changes.done;
            case 4: return arms.bodies;
            case 5: return arms.ran;
            case 6: return sky.throwers;
            case 7: return sky.ships;
            default: return BAD;
        }
    }

    // ---- what the calls share

    /** The shelf of that number; null if there is none. */
    private Shelf shelfAt(int shelf) {
        return shelf >= 0 && shelf < SHELVES ? shelves[shelf] : null;
    }

    /** Whether the star in the three of that number from place i on came. */
    private boolean starCame(Shelf from, int i, int three) {
        if (!from.hasPlace(i)) {
            return false;
        }
        int at = i + 3 * three;
        return sky.addStar(from.told(at), from.told(at + 1), from.told(at + 2)) >= 0;
    }

    private int oddsNow(int star, int thrower) {
        return inForce.oddsOf(sky, star, thrower, sky.get(Sky.MINUTE, 0));
    }

    /** Above (part 0) or below the line, in lowest terms. */
    private static long partOf(long above, long below, int part) {
        long common = commonDivisor(above, below);
        if (common == 0) {
            return NO_LONG;
        }
        return (part == 0 ? above : below) / common;
    }

    private static long commonDivisor(long a, long b) {
        // 64 bits need fewer than a hundred remainders.
        for (int i = 0; i < 100 && b != 0; i++) {
            long rest = a % b;
            a = b;
            b = rest;
        }
        return a;
    }

    /** The fewest minutes in which the throwers together can throw that many. */
    private int minutesToDeal(int many) {
        // Even the slowest thrower alone is done by then.
        int enough = many * 9;
        for (int minutes = 0; minutes < enough; minutes++) {
            int room = 0;
            for (int thrower = 0; thrower < sky.throwers; thrower++) {
                room += throwsWithin(thrower, minutes);
            }
            if (room >= many) {
                return minutes;
            }
        }
        return enough;
    }

    /** The first thrower that has room: so the deal is the first by numbers. */
    private int throwerOfDealt(int k, int minutes) {
        int room = 0;
        for (int thrower = 0; thrower < sky.throwers; thrower++) {
            room += throwsWithin(thrower, minutes);
            if (k < room) {
                return thrower;
            }
        }
        return NOT;
    }

    private int throwsWithin(int thrower, int minutes) {
        int speed = sky.get(Sky.SPEED, thrower);
        return speed > 0 ? minutes / speed : 0;
    }

    /** All numbers that mend() may change, what is led, and how long it lasts. */
    private static final class Sky {
        static final int CELL = 0, BRIGHT = 1, STICKY = 2, ARMS = 3, UP = 4, GONE = 5;
        static final int FLAT = 6, SPEED = 7, NEEDS = 8, MINUTE = 9, DAWN = 10, SEED = 11, WHATS = 12;
        static final int[] LEAST = {0, 1, 0, 0, 0, 0, 0, 1, 1, 0, 0, -2147483648};
        static final int[] MOST = {47, 9, 9, 9, 1, 1, 9, 9, 1023, 999, 999, 2147483647};
        static final int WIDE = 8, HIGH = 6, AT_FIRST = 5, LAST_MINUTE = 999;
        static final int MOST_STARS = 10, MOST_THROWERS = 4, MOST_SHIPS = 6;
        static final int THROWS = 0, STUCK = 1, DROPPED = 2, POCKETED = 3, MINUTES = 4, LEDS = 5;

        final int[][] numbers = new int[WHATS][MOST_STARS];
        /** The same row as in numbers: sets of stars are tried by the thousand. */
        final int[] needs = numbers[NEEDS];
        final int[] led = new int[LEDS];
        int stars, throwers, ships;

        Sky() {
            numbers[DAWN][0] = 480;
            numbers[SEED][0] = 1;
        }

        /** How many of them there are, of whom this is a number. */
        int holders(int what) {
            if (what < CELL || what >= WHATS) {
                return 0;
            }
            if (what <= GONE) {
                return stars;
            }
            if (what <= SPEED) {
                return throwers;
            }
            return what == NEEDS ? ships : 1;
        }

        boolean has(int what, int number) {
            return number >= 0 && number < holders(what);
        }

        boolean mayBe(int what, int v) {
            return what >= CELL && what < WHATS && v >= LEAST[what] && v <= MOST[what];
        }

        int get(int what, int number) {
            return has(what, number) ? numbers[what][number] : 0;
        }

        void set(int what, int number, int v) {
            if (has(what, number)) {
                numbers[what][number] = v;
            }
        }

        boolean isThrow(int st) {
            return st >= 0 && has(CELL, st / 10) && has(FLAT, st % 10);
        }

        int starIn(int cell) {
            for (int star = 0; star < stars; star++) {
                if (numbers[CELL][star] == cell) {
                    return star;
                }
            }
            return NOT;
        }

        boolean isTakenByOther(int cell, int star) {
            int there = starIn(cell);
            return there != NOT && there != star;
        }

        int addStar(int cell, int bright, int sticky) {
            if (!mayBe(CELL, cell) || !mayBe(BRIGHT, bright) || !mayBe(STICKY, sticky)) {
                return BAD;
            }
            if (starIn(cell) != NOT) {
                return BAD;
            }
            if (stars >= MOST_STARS) {
                return FULL;
            }
            int star = stars++;
            set(CELL, star, cell);
            set(BRIGHT, star, bright);
            set(STICKY, star, sticky);
            set(ARMS, star, AT_FIRST);
            return star;
        }

        int addThrower(int flat) {
            if (!mayBe(FLAT, flat)) {
                return BAD;
            }
            if (throwers >= MOST_THROWERS) {
                return FULL;
            }
            int thrower = throwers++;
            set(FLAT, thrower, flat);
            set(SPEED, thrower, 3);
            return thrower;
        }

        int addShip(int needs) {
            if (!mayBe(NEEDS, needs)) {
                return BAD;
            }
            if (ships >= MOST_SHIPS) {
                return FULL;
            }
            int ship = ships++;
            set(NEEDS, ship, needs);
            return ship;
        }

        /** Of which stars this number is not 0. */
        int bits(int what) {
            int bits = 0;
            for (int star = 0; star < stars; star++) {
                if (get(what, star) != 0) {
                    bits |= 1 << star;
                }
            }
            return bits;
        }

        /** Stars that are there and not gone. */
        int atHand() {
            return (1 << stars) - 1 & ~bits(GONE);
        }

        int waiting() {
            return atHand() & ~bits(UP);
        }

        int dropMinute(int star) {
            int minute = get(DAWN, 0) + 3 * get(STICKY, star) + get(ARMS, star) - get(BRIGHT, star);
            return Math.max(0, minute);
        }

        int firstToDrop() {
            int first = NOT;
            for (int star = 0; star < stars; star++) {
                boolean sooner = first == NOT || dropMinute(star) < dropMinute(first);
                if (get(UP, star) != 0 && sooner) {
                    first = star;
                }
            }
            return first;
        }

        int upAfter(int minute) {
            int still = bits(UP);
            for (int star = 0; star < stars; star++) {
                if (dropMinute(star) <= minute) {
                    still &= ~(1 << star);
                }
            }
            return still;
        }

        int placeOnSand(int star) {
            return (3 * (get(CELL, star) % WIDE) + get(STICKY, star)) % SAND;
        }

        /** The minute stays at its last one; what is led does not. */
        void goOn(int minutes) {
            led[MINUTES] += minutes;
            set(MINUTE, 0, Math.min(LAST_MINUTE, get(MINUTE, 0) + minutes));
        }

        /** How many dropped by now. */
        int dropDue() {
            int due = bits(UP) & ~upAfter(get(MINUTE, 0));
            for (int star = 0; star < stars; star++) {
                if ((due >> star & 1) != 0) {
                    set(UP, star, 0);
                }
            }
            int many = Integer.bitCount(due);
            led[DROPPED] += many;
            return many;
        }
    }

    /** What back() lays back. */
    private static final class Image {
        final int[] led = new int[Sky.LEDS];
        int up, gone, stars, minute, seed;
        boolean isTaken;

        void takeOf(Sky sky) {
            up = sky.bits(Sky.UP);
            gone = sky.bits(Sky.GONE);
            stars = sky.stars;
            minute = sky.get(Sky.MINUTE, 0);
            seed = sky.get(Sky.SEED, 0);
            System.arraycopy(sky.led, 0, led, 0, Sky.LEDS);
            isTaken = true;
        }

        void layOn(Sky sky) {
            for (int star = 0; star < stars; star++) {
                sky.set(Sky.UP, star, up >> star & 1);
                sky.set(Sky.GONE, star, gone >> star & 1);
            }
            sky.set(Sky.MINUTE, 0, minute);
            sky.set(Sky.SEED, 0, seed);
            System.arraycopy(led, 0, sky.led, 0, Sky.LEDS);
        }
    }

    /** Changes by mend(): those done, and behind them those that may be done again. */
    private static final class Changes {
        static final int MOST = 40;
        final int[] what = new int[MOST], number = new int[MOST];
        final int[] was = new int[MOST], became = new int[MOST];
        int done, all;

        void add(int changed, int of, int from, int to) {
            if (done >= MOST) {
                forgetOldest();
            }
            what[done] = changed;
            number[done] = of;
            was[done] = from;
            became[done] = to;
            done++;
            all = done;
        }

        private void forgetOldest() {
            System.arraycopy(what, 1, what, 0, MOST - 1);
            System.arraycopy(number, 1, number, 0, MOST - 1);
            System.arraycopy(was, 1, was, 0, MOST - 1);
            System.arraycopy(became, 1, became, 0, MOST - 1);
            done = MOST - 1;
        }

        int takeBack(Sky sky) {
            if (done <= 0) {
                return STATE;
            }
            done--;
            lay(sky, done, was[done]);
            return done;
        }

        int doAgain(Sky sky) {
            if (done >= all || done >= MOST) {
                return STATE;
            }
            lay(sky, done, became[done]);
            done++;
            return all - done;
        }

        private void lay(Sky sky, int change, int v) {
            boolean isTaken = what[change] == Sky.CELL && sky.isTakenByOther(v, number[change]);
            if (!isTaken) {
                sky.set(what[change], number[change], v);
            }
        }
    }

    /** A law's text, worked into signs that stand behind what they join; none at first. */
    private static final class Law {
        static final int ROOM = 128, TWELVE = 12, NAMES = 6;
        /** Signs of their own; the joining ones are the text's bytes, all above these. */
        static final int NUMBER = 0, NAME = 1, IF = 2, END = 3, NO = 4, LESS = 5;

        final int[] signs = new int[ROOM], with = new int[ROOM], stack = new int[ROOM];
        final int[] names = new int[NAMES];
        int size;

        void clear() {
            size = 0;
        }

        void add(int sign, int worth) {
            if (size < ROOM) {
                signs[size] = sign;
                with[size] = worth;
                size++;
            }
        }

        /** An if that fails goes on at the place where the next sign will be. */
        void leadHere(int place) {
            if (place >= 0 && place < size) {
                with[place] = size;
            }
        }

        int oddsOf(Sky sky, int star, int thrower, int minute) {
            names[0] = sky.get(Sky.FLAT, thrower);
            names[1] = sky.get(Sky.STICKY, star);
            names[2] = sky.get(Sky.BRIGHT, star);
            names[3] = sky.get(Sky.CELL, star) / Sky.WIDE;
            names[4] = sky.get(Sky.ARMS, star);
            names[5] = minute;
            int odds = size == 0 ? withoutText() : worth();
            return Math.max(0, Math.min(TWELVE, odds));
        }

        private int withoutText() {
            return 6 + names[0] / 2 + names[1] / 3 - names[2] / 3 - names[3] / 2;
        }

        private int worth() {
            int height = 0;
            for (int at = 0; at < size; at++) {
                int sign = signs[at];
                if (sign == NUMBER || sign == NAME) {
                    if (height >= ROOM) {
                        return 0;
                    }
                    stack[height] = sign == NUMBER ? with[at] : named(with[at]);
                    height++;
                } else if (height <= 0) {
                    return 0;
                } else if (sign == END) {
                    return stack[height - 1];
                } else if (sign == IF) {
                    height--;
                    if (stack[height] == 0) {
                        at = Math.max(at, with[at] - 1);
                    }
                } else if (sign == NO || sign == LESS) {
                    int last = stack[height - 1];
                    stack[height - 1] = sign == LESS ? -last : truth(last == 0);
                } else if (height > 1) {
                    height--;
                    stack[height - 1] = joined(sign, stack[height - 1], stack[height]);
                }
            }
            return 0;
        }

        private int named(int name) {
            return name >= 0 && name < NAMES ? names[name] : 0;
        }

        private static int truth(boolean is) {
            return is ? 1 : 0;
        }

        private static int joined(int sign, int left, int right) {
            switch (sign) {
                case '|': return truth(left != 0 || right != 0);
                case '&': return truth(left != 0 && right != 0);
                case '<': return truth(left < right);
                case '=': return truth(left == right);
                case '>': return truth(left > right);
                case '+': return left + right;
                case '-': return left - right;
                case '*': return left * right;
                case '/': return right == 0 ? 0 : left / right;
                case '%': return right == 0 ? 0 : left % right;
                default: return 0;
            }
        }
    }

    /** The tape, and how it is read as a text. */
    private static final class Tape {
        static final int MOST = 120, MOST_OPEN = 6, MOST_DIGITS = 4;
        /** How tightly signs join: | & then comparing, then + - then * / %. */
        static final int LOOSEST = 0, COMPARING = 2, OPERAND = 5;

        final int[] bytes = new int[MOST];
        int length;
        private int place;
        private Law into;

        int add(int letter) {
            if (length >= MOST) {
                return FULL;
            }
            bytes[length] = letter;
            length++;
            return length;
        }

        void clear() {
            length = 0;
        }

        /** The fault's place; -1 if the tape is a text, which the law then holds. */
        int faultInto(Law law) {
            law.clear();
            into = law;
            place = 0;
            boolean more = true;
            // Each line takes a byte at least.
            for (int line = 0; line <= MOST && more; line++) {
                if (!readLine()) {
                    return place;
                }
                more = here() == ';';
                if (more) {
                    place++;
                }
            }
            return place == length ? -1 : place;
        }

        /** The byte that comes next; -1 at the end. */
        private int here() {
            return place < length && place < MOST ? bytes[place] : -1;
        }

        private boolean readLine() {
            if (!readJoined(LOOSEST, 0)) {
                return false;
            }
            int ahead = -1;
            if (here() == '?') {
                place++;
                ahead = into.size;
                into.add(Law.IF, 0);
                if (!readJoined(LOOSEST, 0)) {
                    return false;
                }
            }
            into.add(Law.END, 0);
            into.leadHere(ahead);
            return true;
        }

        /** Reads what signs of this tightness join; false where no text goes on. */
        private boolean readJoined(int tightness, int open) {
            if (!readPart(tightness + 1, open)) {
                return false;
            }
            int most = tightness == COMPARING ? 1 : MOST;
            for (int i = 0; i < most && tightnessOf(here()) == tightness; i++) {
                int sign = here();
                place++;
                if (!readPart(tightness + 1, open)) {
                    return false;
                }
                into.add(sign, 0);
            }
            return true;
        }

        private boolean readPart(int tightness, int open) {
            return tightness >= OPERAND ? readOperand(open) : readJoined(tightness, open);
        }

        private boolean readOperand(int open) {
            int sign = here();
            if (sign == '(' || sign == '!' || sign == '-') {
                if (open >= MOST_OPEN) {
                    return false;
                }
                place++;
                return sign == '(' ? readBracketed(open + 1) : readTurned(sign, open + 1);
            }
            if (isDigit(sign)) {
                readNumber();
                return true;
            }
            int name = nameOf(sign);
            if (name < 0) {
                return false;
            }
            into.add(Law.NAME, name);
            place++;
            return true;
        }

        private boolean readBracketed(int open) {
            if (!readJoined(LOOSEST, open) || here() != ')') {
                return false;
            }
            place++;
            return true;
        }

        private boolean readTurned(int sign, int open) {
            if (!readOperand(open)) {
                return false;
            }
            into.add(sign == '!' ? Law.NO : Law.LESS, 0);
            return true;
        }

        private void readNumber() {
            int number = 0;
            for (int i = 0; i < MOST_DIGITS && isDigit(here()); i++) {
                number = 10 * number + here() - '0';
                place++;
            }
            into.add(Law.NUMBER, number);
        }

        private static boolean isDigit(int sign) {
            return sign >= '0' && sign <= '9';
        }

        private static int tightnessOf(int sign) {
            switch (sign) {
                case '|': return 0;
                case '&': return 1;
                case '<': case '=': case '>': return COMPARING;
                case '+': case '-': return 3;
                case '*': case '/': case '%': return 4;
                default: return -1;
            }
        }

        private static int nameOf(int sign) {
            switch (sign) {
                case 'f': return 0;
                case 's': return 1;
                case 'b': return 2;
                case 'y': return 3;
                case 'a': return 4;
                case 'm': return 5;
                default: return -1;
            }
        }
    }

    /** The throws of a plan, as it was read last. */
    private static final class Plan {
        final int[] star = new int[Sky.MOST_STARS], minute = new int[Sky.MOST_STARS];
        final int[] odds = new int[Sky.MOST_STARS];
        final int[] free = new int[Sky.MOST_THROWERS];
        int size, done, z;

        void read(Shelf row, Sky sky, Law law) {
            int seen = sky.bits(Sky.GONE);
            size = 0;
            done = sky.get(Sky.MINUTE, 0);
            for (int thrower = 0; thrower < Sky.MOST_THROWERS; thrower++) {
                free[thrower] = done;
            }
            for (int k = 0; k < Sky.MOST_STARS; k++) {
                int who = row.told(2 * k), by = row.told(2 * k + 1);
                if (!sky.has(Sky.CELL, who) || !sky.has(Sky.FLAT, by) || (seen >> who & 1) != 0) {
                    return;
                }
                seen |= 1 << who;
                star[k] = who;
                minute[k] = Math.min(Sky.LAST_MINUTE, free[by]);
                odds[k] = law.oddsOf(sky, who, by, minute[k]);
                free[by] += sky.get(Sky.SPEED, by);
                done = Math.max(done, free[by]);
                size = k + 1;
            }
        }

        /** Who is up behind one night of draws. */
        int nightFrom(int up) {
            for (int k = 0; k < size; k++) {
                z = next(z);
                if (sticks(z, odds[k])) {
                    up |= 1 << star[k];
                }
            }
            return up;
        }

        static int next(int z) {
            return z * 1103515245 + 12345;
        }

        static boolean sticks(int z, int odds) {
            return (z >>> 8) % Law.TWELVE < odds;
        }
    }

    /** The best walk of a finder on the sand. */
    private static final class Finder {
        final Sky sky;
        final int[] bright = new int[SAND];
        int most, left;

        Finder(Sky sky) {
            this.sky = sky;
        }

        void look(int place, int t) {
            spread();
            most = -1;
            left = 0;
            for (int back = 0; back <= place && back <= t; back++) {
                int sum = sumOf(place - back, place + furthestRight(back, t));
                if (sum > most) {
                    most = sum;
                    left = back;
                }
            }
        }

        /** The shorter side is walked twice. */
        private static int furthestRight(int back, int t) {
            return Math.max(0, Math.max(t - 2 * back, (t - back) / 2));
        }

        private void spread() {
            for (int place = 0; place < SAND; place++) {
                bright[place] = 0;
            }
            for (int star = 0; star < sky.stars; star++) {
                int place = sky.placeOnSand(star);
                if (sky.get(Sky.UP, star) != 0 && place >= 0 && place < SAND) {
                    bright[place] += sky.get(Sky.BRIGHT, star);
                }
            }
        }

        private int sumOf(int from, int to) {
            int sum = 0;
            for (int place = Math.max(0, from); place <= to && place < SAND; place++) {
                sum += bright[place];
            }
            return sum;
        }
    }

    /** A pattern of cells, found again on the map by moves. */
    private static final class Chart {
        static final int MOST = 8, ALONG = 7, UPWARD = 5, MOVES_ALONG = 15;
        final Sky sky;
        final int[] xs = new int[MOST], ys = new int[MOST];
        int cells, moves, first;

        Chart(Sky sky) {
            this.sky = sky;
        }

        void read(Shelf row, boolean mirrored) {
            cells = 0;
            for (int i = 0; i < MOST; i++) {
                int cell = row.told(i);
                if (!sky.mayBe(Sky.CELL, cell)) {
                    return;
                }
                int x = cell % Sky.WIDE;
                xs[i] = mirrored ? Sky.WIDE - 1 - x : x;
                ys[i] = cell / Sky.WIDE;
                cells = i + 1;
            }
        }

        void findMoves() {
            moves = 0;
            first = 0;
            for (int y = -UPWARD; y <= UPWARD; y++) {
                for (int x = -ALONG; x <= ALONG; x++) {
                    if (!fits(x, y)) {
                        continue;
                    }
                    if (moves == 0) {
                        first = MOVES_ALONG * (y + UPWARD) + x + ALONG;
                    }
                    moves++;
                }
            }
        }

        private boolean fits(int byX, int byY) {
            for (int i = 0; i < cells; i++) {
                int x = xs[i] + byX, y = ys[i] + byY;
                if (x < 0 || x >= Sky.WIDE || y < 0 || y >= Sky.HIGH) {
                    return false;
                }
                if (sky.starIn(Sky.WIDE * y + x) == NOT) {
                    return false;
                }
            }
            return true;
        }
    }

    /** The ships, and what is asked of the stars that they steer by. */
    private static final class Fleet {
        static final int MOST_HOMES = 12, NOTHING_FLUNG = 10;
        final Sky sky;
        final int[] homeShip = new int[MOST_HOMES], cameHome = new int[MOST_HOMES];
        int homes, sets, wrong, atHand, reached, opening;

        Fleet(Sky sky) {
            this.sky = sky;
        }

        int steering(int up) {
            int bits = 0;
            for (int ship = 0; ship < sky.ships; ship++) {
                if ((sky.needs[ship] & up) != 0) {
                    bits |= 1 << ship;
                }
            }
            return bits;
        }

        /** The fewest stars of which each ship needs that many; -1 if there are none such. */
        int fewestFor(int each) {
            int atHand = sky.atHand(), best = -1;
            for (int bits = 0; bits <= atHand; bits++) {
                boolean fewer = best < 0 || Integer.bitCount(bits) < Integer.bitCount(best);
                if ((bits & ~atHand) == 0 && fewer && serves(bits, each)) {
                    best = bits;
                }
            }
            return best;
        }

        private boolean serves(int bits, int each) {
            for (int ship = 0; ship < sky.ships; ship++) {
                if (Integer.bitCount(sky.needs[ship] & bits) < each) {
                    return false;
                }
            }
            return true;
        }

        void readHomes(Shelf row) {
            homes = 0;
            for (int i = 0; i < MOST_HOMES; i++) {
                int ship = row.told(2 * i), came = row.told(2 * i + 1);
                if (!sky.has(Sky.NEEDS, ship) || came < 0 || came > 1) {
                    return;
                }
                homeShip[i] = ship;
                cameHome[i] = came;
                homes = i + 1;
            }
        }

        void findWrong() {
            int up = sky.bits(Sky.UP);
            sets = 0;
            wrong = 0;
            for (int bits = 0; bits <= up; bits++) {
                if ((bits & ~up) != 0 || !allIsSo(up & ~bits)) {
                    continue;
                }
                if (sets == 0 || Integer.bitCount(bits) < Integer.bitCount(wrong)) {
                    wrong = bits;
                }
                sets++;
            }
        }

        private boolean allIsSo(int right) {
            int steers = steering(right);
            for (int i = 0; i < homes; i++) {
                if ((steers >> homeShip[i] & 1) != cameHome[i]) {
                    return false;
                }
            }
            return true;
        }

        /** Finds what is reached in n turns, and the thrower's first. */
        void playTurns(int n) {
            int up = sky.bits(Sky.UP), waiting = sky.waiting(), all = sky.ships;
            atHand = sky.atHand();
            opening = NOTHING_FLUNG;
            reached = fewestBehind(up, n - 1, -1, all + 1);
            for (int star = 0; star < sky.stars; star++) {
                if ((waiting >> star & 1) == 0) {
                    continue;
                }
                int ships = fewestBehind(up | 1 << star, n - 1, reached, all + 1);
                if (ships > reached) {
                    reached = ships;
                    opening = star;
                }
            }
        }

        /**
         * How many steer behind the turns that are left, the thrower's next. At most low
         * he has already elsewhere, at least high the map won't allow: so what lies
         * outside need not be known closer.
         */
        private int mostBehind(int up, int turns, int low, int high) {
            if (turns <= 0) {
                return Integer.bitCount(steering(up));
            }
            int best = fewestBehind(up, turns - 1, low, high);
            for (int star = 0; star < sky.stars && best < high; star++) {
                if ((atHand & ~up & 1 << star) != 0) {
                    int ships = fewestBehind(up | 1 << star, turns - 1, Math.max(low, best), high);
                    best = Math.max(best, ships);
                }
            }
            return best;
        }

        /** The same, the map's turn next. */
        private int fewestBehind(int up, int turns, int low, int high) {
            if (turns <= 0) {
                return Integer.bitCount(steering(up));
            }
            int best = mostBehind(up, turns - 1, low, high);
            for (int star = 0; star < sky.stars && best > low; star++) {
                if ((up & 1 << star) != 0) {
                    int ships = mostBehind(up & ~(1 << star), turns - 1, low, Math.min(high, best));
                    best = Math.min(best, ships);
                }
            }
            return best;
        }
    }

    /** What one shelf holds: nothing, a row of a sort, or a body. */
    private static final class Shelf {
        static final int EMPTY = -1, BYTES = 0, SHORTS = 1, INTS = 2, LONGS = 3, BOOLEANS = 4, BODY = 5;
        static final int MOST = 60;
        final long[] elements = new long[MOST];
        int holds = EMPTY, length, body;

        boolean isEmpty() {
            return holds == EMPTY;
        }

        boolean isBody() {
            return holds == BODY;
        }

        boolean isRow() {
            return holds >= BYTES && holds <= BOOLEANS;
        }

        boolean isBytes() {
            return holds == BYTES;
        }

        /** Why it is not what was wanted. */
        int refusal() {
            return isEmpty() ? MISSING : UNLIKE;
        }

        void holdNothing() {
            holds = EMPTY;
        }

        void holdBody(int number) {
            holds = BODY;
            body = number;
        }

        void holdRow(int sort, int n) {
            holds = sort;
            length = Math.max(0, Math.min(MOST, n));
            for (int i = 0; i < MOST; i++) {
                elements[i] = 0;
            }
        }

        boolean hasPlace(int i) {
            return i >= 0 && i < length;
        }

        boolean hasRun(int i, int n) {
            return i >= 0 && i <= length && n <= length - i;
        }

        /** Of a row of bytes the one in a place; -1, which is never anybody's number, if none. */
        int told(int i) {
            return hasPlace(i) ? (int) elements[i] : -1;
        }

        void write(int i, long v) {
            if (hasPlace(i)) {
                elements[i] = lowest(v);
            }
        }

        private long lowest(long v) {
            switch (holds) {
                case BYTES: return (byte) v;
                case SHORTS: return (short) v;
                case INTS: return (int) v;
                case BOOLEANS: return v != 0 ? 1 : 0;
                default: return v;
            }
        }
    }

    /** Bodies and their acts, each done as its own kind, or the next above, does it. */
    private static final class Arms {
        static final int MOST = 50, KINDS = 8, ACTS = 4, TRAIL = 24, DEEPEST = 40;
        static final int STICKS = 0, DROPS = 1, LIES = 2, TELLS = 3;
        static final int[] ABOVE = {-1, 0, 0, 2, 1, 3, 0, 6};
        /** By fours, a kind's own bodies of acts; 0: it has none. */
        static final int[] OWN = {
            1, 10, 11, 2,
            20, 0, 0, 0,
            0, 30, 0, 0,
            0, 41, 40, 0,
            0, 0, 0, 50,
            0, 0, 60, 61,
            70, 0, 0, 0,
            81, 80, 0, 0};

        final int[] kinds = new int[MOST], trail = new int[TRAIL];
        int bodies, ran;

        int add(int kind) {
            if (kind < 0 || kind >= KINDS) {
                return BAD;
            }
            if (bodies >= MOST) {
                return FULL;
            }
            kinds[bodies] = kind;
            bodies++;
            return bodies - 1;
        }

        int kindOf(int body) {
            return body >= 0 && body < bodies ? kinds[body] : -1;
        }

        static boolean isUnder(int kind, int other) {
            int at = kind;
            for (int i = 0; i < KINDS && at != other; i++) {
                at = above(at);
            }
            return at == other;
        }

        private static int above(int kind) {
            return kind >= 0 && kind < KINDS ? ABOVE[kind] : -1;
        }

        int traced() {
            return Math.min(ran, TRAIL);
        }

        int actOf(int body, int act, int x) {
            ran = 0;
            if (kindOf(body) < 0 || act < 0 || act >= ACTS) {
                return 0;
            }
            return done(body, act, x, 0);
        }

        /** An act as the body's own kind does it. */
        private int done(int body, int act, int x, int depth) {
            return doneAs(kindOf(body), body, act, x, depth);
        }

        private int doneAs(int from, int body, int act, int x, int depth) {
            int kind = from;
            for (int i = 0; i < KINDS && ownOf(kind, act) == 0; i++) {
                kind = above(kind);
            }
            int own = ownOf(kind, act);
            if (own == 0 || depth > DEEPEST) {
                return 0;
            }
            begin(own);
            int next = depth + 1;
            switch (own) {
                case 1: return x + body;
                case 2: return done(body, DROPS, x, next) - done(body, LIES, 1, next);
                case 10: return done(body, STICKS, x, next) * 2;
                case 11: return x ^ body;
                case 20: return doneAbove(kind, body, act, x, next) + 3;
                case 30: return -doneAbove(kind, body, act, x, next);
                case 40: return doneAbove(kind, body, act, x, next) * 3;
                case 41: return doneAbove(kind, body, act, x + 1, next);
                case 50: return doneAbove(kind, body, act, x, next) ^ 5;
                case 60: return doneAbove(kind, body, act, x, next) - done(body, STICKS, 2, next);
                case 61: return doneAbove(kind, body, act, x, next) + 1;
                case 70: return doneAbove(kind, body, act, x, next) * 2;
                case 80: return doneAbove(kind, body, act, x, next) + done(body, LIES, 2, next);
                case 81: return doneAbove(kind, body, act, x, next) - 1;
                default: return 0;
            }
        }

        /** An act as the kind above that one does it. */
        private int doneAbove(int kind, int body, int act, int x, int depth) {
            return doneAs(above(kind), body, act, x, depth);
        }

        private static int ownOf(int kind, int act) {
            boolean isThere = kind >= 0 && kind < KINDS && act >= 0 && act < ACTS;
            return isThere ? OWN[ACTS * kind + act] : 0;
        }

        private void begin(int own) {
            if (ran < TRAIL) {
                trail[ran] = own;
            }
            ran++;
        }
    }
}
