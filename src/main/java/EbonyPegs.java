/** A horse of ebony that flies when its pegs are turned, told in a text. */
public final class EbonyPegs {
    public static final int BAD = -1, NO = -2, FULL = -3, NONE = -4;

    // every other kind is PLAIN
    private static final int DOUBLING = 1, TURNED = 2, HEAVY = 3;
    private static final int KINDS = 4, LIFTS = 10;
    private static final int SOUTH = 2, NOWHERE = 4;
    private static final int FAR = 9, HIGH = 9;
    private static final int MOST_LETTERS = 200, MOST_PEGS = 7, MOST_ROOFS = 6;
    private static final int MOST_SEEN = 6, MOST_UNDONE = 8, MOST_KEPT = 2;
    private static final int MOST_TURNS = 6;
    private static final String FIRST_TEXT =
        "p0,7,0;p0,3,1;p1,4,0;p2,6,1;p3,9,3;w1,1;w3,2;w5,3;w7,0;r5,3;r7,7;r2,6;b5,5,3,0;t1;";
    private static final int[] EASTWARD = {0, 1, 0, -1, 0};
    private static final int[] SOUTHWARD = {-1, 0, 1, 0, 0};

    private final Script script = new Script();
    private final Plan plan = new Plan();
    // a text is tried here first, so that a fault leaves the laid plan as it is
    private final Plan spare = new Plan();
    private final Horse horse = new Horse();
    private final Horse trial = new Horse();
    private final Horse rival = new Horse();
    private final Shelf past = new Shelf(MOST_UNDONE);
    private final Shelf stable = new Shelf(MOST_KEPT);
    private final Sightings sightings = new Sightings();
    private final Outlook outlook = new Outlook(plan);

    public EbonyPegs() {
        for (int i = 0; i < FIRST_TEXT.length(); i++) {
            script.add(FIRST_TEXT.charAt(i));
        }
        script.readInto(plan);
        script.length = 0;
        horse.copy(plan.start);
    }

    // ---- horses

    public int write(int letter) {
        if (letter < 32 || letter > 126) {
            return BAD;
        }
        return script.add((char) letter) ? script.length : FULL;
    }

    public int wipe() {
        int length = script.length;
        script.length = 0;
        return length;
    }

    public int fault() {
        return script.readInto(spare);
    }

    public int lay() {
        if (script.readInto(spare) != NONE || spare.pegs < 1) {
            return NO;
        }
        script.readInto(plan);
        horse.copy(plan.start);
        past.size = 0;
        stable.size = 0;
        sightings.size = 0;
        return plan.pegs;
    }

    public int peg(int p, int what) {
        if (!plan.hasPeg(p)) {
            return BAD;
        }
        switch (what) {
            case 0: return plan.kinds[p];
            case 1: return plan.lifts[p];
            case 2: return plan.quarters[p];
            case 3: return plan.liftOf(p, horse) + 20;
            case 4: return plan.quartersOf(p, horse);
            default: return BAD;
        }
    }

    public int wind(int h) {
        return h < 1 || h > HIGH ? BAD : plan.windAt(h);
    }

    public int roof(int r, int what) {
        if (!plan.hasRoof(r) || what < 0 || what > 1) {
            return BAD;
        }
        return what == 0 ? plan.roofXs[r] : plan.roofYs[r];
    }

    // ---- flying

    public int turn(int p) {
        if (!plan.hasPeg(p)) {
            return BAD;
        }
        if (horse.isDown()) {
            return NO;
        }
        past.put(horse);
        plan.turnPeg(horse, p);
        return horse.height;
    }

    public int flyOn() {
        if (horse.isDown()) {
            return NO;
        }
        past.put(horse);
        plan.glide(horse);
        return horse.spot();
    }

    public int setDown() {
        if (horse.riders != 2 || !plan.hasLanded(horse)) {
            return NO;
        }
        past.put(horse);
        horse.riders = 1;
        horse.height = 1;
        horse.ahead = NONE;
        return horse.riders;
    }

    public int undo() {
        return past.takeLast(horse) ? past.size : NO;
    }

    public int now(int what) {
        switch (what) {
            case 0: return horse.x;
            case 1: return horse.y;
            case 2: return horse.height;
            case 3: return horse.course;
            case 4: return horse.hours;
            case 5: return horse.riders;
            case 6: return plan.hasLanded(horse) ? 1 : 0;
            case 7: return plan.hasFallen(horse) ? 1 : 0;
            case 8: return horse.ahead;
            default: return BAD;
        }
    }

    // ---- what would be

    public int safe() {
        if (horse.isDown()) {
            return 0;
        }
        int bits = 0;
        for (int p = 0; p < plan.pegs; p++) {
            trial.copy(horse);
            plan.turnPeg(trial, p);
            if (!plan.hasFallen(trial)) {
                bits |= 1 << p;
            }
        }
        return bits;
    }

    public int way(int r, int k) {
        if (!plan.hasRoof(r) || k < -1 || k >= MOST_TURNS) {
            return BAD;
        }
        outlook.startAt(horse);
        for (int turns = 0; turns <= MOST_TURNS; turns++) {
            int path = outlook.pathTo(plan.roofXs[r], plan.roofYs[r]);
            if (path >= 0) {
                return k < 0 ? turns : pegOfPath(path, turns, k);
            }
            if (turns < MOST_TURNS) {
                outlook.grow();
            }
        }
        return NONE;
    }

    public int near(int n) {
        if (n < 0 || n > 5) {
            return BAD;
        }
        outlook.startAt(horse);
        int bits = outlook.roofsReached();
        for (int turns = 0; turns < n; turns++) {
            outlook.grow();
            bits |= outlook.roofsReached();
        }
        return bits;
    }

    public int undoes(int p) {
        if (!plan.hasPeg(p)) {
            return BAD;
        }
        int bits = 0;
        for (int q = 0; q < plan.pegs; q++) {
            trial.copy(horse);
            if (turnBoth(trial, p, q) && trial.height == horse.height && trial.course == horse.course) {
                bits |= 1 << q;
            }
        }
        return bits;
    }

    public int either(int p, int q) {
        if (!plan.hasPeg(p) || !plan.hasPeg(q)) {
            return BAD;
        }
        trial.copy(horse);
        rival.copy(horse);
        // LANDED and FALLEN follow from place and height, so they need no look of their own
        return turnBoth(trial, p, q) && turnBoth(rival, q, p) && trial.isLike(rival) ? 1 : 0;
    }

    public int drift(int n) {
        if (n < 1 || n > 20) {
            return BAD;
        }
        if (horse.isDown()) {
            return NO;
        }
        trial.copy(horse);
        for (int hour = 0; hour < n; hour++) {
            plan.glide(trial);
        }
        return trial.spot();
    }

    // ---- what was seen

    public int seen(int p, int c, int v) {
        if (!plan.hasPeg(p) || c < 0 || c > 3 || v < 0 || v > 36) {
            return BAD;
        }
        return sightings.add(p, c, v - 18) ? sightings.size : FULL;
    }

    public int forget() {
        int size = sightings.size;
        sightings.size = 0;
        return size;
    }

    public int may(int p, int what) {
        if (!plan.hasPeg(p) || what < 0 || what > 1) {
            return BAD;
        }
        int bits = 0;
        for (int i = 0; i < (what == 0 ? KINDS : LIFTS); i++) {
            int kind = what == 0 ? i : plan.kinds[p];
            int lift = what == 0 ? plan.lifts[p] : i;
            if (sightings.allow(p, kind, lift)) {
                bits |= 1 << i;
            }
        }
        return bits;
    }

    public int which(int x, int y, int h) {
        if (x < 0 || x > FAR || y < 0 || y > FAR || h < 0 || h > HIGH) {
            return BAD;
        }
        int bits = 0;
        for (int p = 0; p < plan.pegs; p++) {
            trial.copy(plan.start);
            plan.turnPeg(trial, p);
            if (trial.x == x && trial.y == y && trial.height == h) {
                bits |= 1 << p;
            }
        }
        return bits;
    }

    // ---- chances

    public int likely(int n, int part) {
        if (n < 0 || n > 5 || part < 0 || part > 1) {
            return BAD;
        }
        int above = landings(outlook, outlook.enter(horse), n);
        int below = power(plan.pegs, n);
        int common = commonDivisor(above, below);
        if (common < 1) {
            return part;
        }
        return part == 0 ? above / common : below / common;
    }

    public int flight(int z, int n, int what) {
        if (z < 0 || z > 9999 || n < 1 || n > 40 || what < 0 || what > 1) {
            return BAD;
        }
        trial.copy(horse);
        int turns = 0;
        while (turns < n && !trial.isDown()) {
            plan.turnPeg(trial, drawnPeg(z, turns));
            turns++;
        }
        if (what == 1) {
            return 100 * trial.height + trial.spot();
        }
        return plan.hasLanded(trial) ? turns : NONE;
    }

    // ---- kept

    public int keep() {
        if (stable.isFull()) {
            return FULL;
        }
        stable.put(horse);
        return stable.size;
    }

    public int back() {
        if (!stable.takeLast(horse)) {
            return NO;
        }
        past.size = 0;
        return stable.size;
    }

    public int count(int what) {
        switch (what) {
            case 0: return plan.pegs;
            case 1: return plan.roofs;
            case 2: return sightings.size;
            case 3: return past.size;
            case 4: return stable.size;
            case 5: return script.length;
            default: return BAD;
        }
    }

    // ---- helpers

    /** Turns p, then q; false if the second one could not be turned any more, or neither could. */
    private boolean turnBoth(Horse flown, int p, int q) {
        if (flown.isDown()) {
            return false;
        }
        plan.turnPeg(flown, p);
        if (flown.isDown()) {
            return false;
        }
        plan.turnPeg(flown, q);
        return true;
    }

    private int drawnPeg(int z, int turn) {
        if (plan.pegs < 1) {
            return 0;
        }
        // x times x is beyond an int
        long x = 7919L * z + 6151L * turn + 1;
        long draw = x * x % 65521 / 8;
        return (int) (draw % plan.pegs);
    }

    /** Of all rows of so many pegs from a place, by how many it has landed. */
    private static int landings(Outlook view, int place, int left) {
        if (Outlook.heightOf(place) == 0) {
            return view.isLanding(place) ? power(view.plan.pegs, left) : 0;
        }
        if (left < 1 || left > MOST_TURNS) {
            return 0;
        }
        int sum = 0;
        for (int p = 0; p < view.plan.pegs; p++) {
            sum += landings(view, view.after(place, p), left - 1);
        }
        return sum;
    }

    private static int pegOfPath(int path, int turns, int k) {
        return k < turns ? (path >> 3 * (turns - 1 - k)) & 7 : NONE;
    }

    private static int power(int base, int exponent) {
        int product = 1;
        for (int i = 0; i < exponent; i++) {
            product *= base;
        }
        return product;
    }

    private static int commonDivisor(int a, int b) {
        int larger = a;
        int smaller = b;
        // Euclid needs fewer than 50 steps for any two ints
        for (int i = 0; i < 64 && smaller != 0; i++) {
            int rest = larger % smaller;
            larger = smaller;
            smaller = rest;
        }
        return larger;
    }

    private static int within(int number, int most) {
        return number < 0 ? 0 : number > most ? most : number;
    }

    /** By how much a peg of a kind lifts. */
    private static int liftBy(int kind, int lift, int course, boolean doubled, int riders) {
        int plain = lift - 5;
        switch (kind) {
            case DOUBLING: return doubled ? 2 * plain : plain;
            case TURNED: return course >= SOUTH ? -plain : plain;
            case HEAVY: return riders == 2 ? plain - 2 : plain;
            default: return plain;
        }
    }

    /** Where a horse is, and all of its past that what it does next depends on. */
    private static final class Horse {
        int x, y, height, course, hours, riders;
        int ahead = NONE;

        void copy(Horse other) {
            x = other.x;
            y = other.y;
            height = other.height;
            course = other.course;
            hours = other.hours;
            riders = other.riders;
            ahead = other.ahead;
        }

        int spot() {
            return 10 * y + x;
        }

        /** LANDED or FALLEN, by whether there is a roof. */
        boolean isDown() {
            return height == 0;
        }

        boolean isLike(Horse other) {
            return x == other.x && y == other.y && height == other.height && course == other.course;
        }

        void step(int direction) {
            if (direction < 0 || direction > NOWHERE) {
                return;
            }
            x = within(x + EASTWARD[direction], FAR);
            y = within(y + SOUTHWARD[direction], FAR);
        }
    }

    /** What a text tells: pegs, winds, roofs, how it begins; and how a horse flies by them. */
    private static final class Plan {
        final int[] kinds = new int[MOST_PEGS];
        final int[] lifts = new int[MOST_PEGS];
        final int[] quarters = new int[MOST_PEGS];
        final int[] winds = new int[HIGH + 1];
        final int[] roofXs = new int[MOST_ROOFS];
        final int[] roofYs = new int[MOST_ROOFS];
        final Horse start = new Horse();
        int pegs, roofs;

        void clear() {
            pegs = 0;
            roofs = 0;
            for (int h = 0; h <= HIGH; h++) {
                winds[h] = NOWHERE;
            }
            begin(5, 5, 3, 0);
            start.riders = 1;
        }

        boolean hasPeg(int p) {
            return p >= 0 && p < pegs && p < MOST_PEGS;
        }

        boolean hasRoof(int r) {
            return r >= 0 && r < roofs && r < MOST_ROOFS;
        }

        int windAt(int h) {
            return h < 1 || h > HIGH ? NOWHERE : winds[h];
        }

        // each of these answers whether the item is so, and takes it then

        boolean addPeg(int kind, int lift, int turned) {
            if (pegs >= MOST_PEGS || kind >= KINDS || lift >= LIFTS || turned > 3) {
                return false;
            }
            kinds[pegs] = kind;
            lifts[pegs] = lift;
            quarters[pegs] = turned;
            pegs++;
            return true;
        }

        boolean setWind(int h, int direction) {
            if (h < 1 || h > HIGH || direction > NOWHERE) {
                return false;
            }
            winds[h] = direction;
            return true;
        }

        boolean addRoof(int x, int y) {
            if (roofs >= MOST_ROOFS || x > FAR || y > FAR) {
                return false;
            }
            roofXs[roofs] = x;
            roofYs[roofs] = y;
            roofs++;
            return true;
        }

        boolean begin(int x, int y, int h, int course) {
            if (x > FAR || y > FAR || h < 1 || h > HIGH || course > 3) {
                return false;
            }
            start.x = x;
            start.y = y;
            start.height = h;
            start.course = course;
            return true;
        }

        boolean setRiders(int riders) {
            if (riders < 1 || riders > 2) {
                return false;
            }
            start.riders = riders;
            return true;
        }

        boolean isRoofAt(int x, int y) {
            for (int r = 0; r < roofs; r++) {
                if (roofXs[r] == x && roofYs[r] == y) {
                    return true;
                }
            }
            return false;
        }

        boolean hasLanded(Horse flown) {
            return flown.isDown() && isRoofAt(flown.x, flown.y);
        }

        boolean hasFallen(Horse flown) {
            return flown.isDown() && !isRoofAt(flown.x, flown.y);
        }

        boolean isDoubling(int p) {
            return hasPeg(p) && kinds[p] == DOUBLING;
        }

        int firstDoubling() {
            for (int p = 0; p < pegs; p++) {
                if (kinds[p] == DOUBLING) {
                    return p;
                }
            }
            return NONE;
        }

        int liftOf(int p, Horse flown) {
            if (!hasPeg(p)) {
                return 0;
            }
            return liftBy(kinds[p], lifts[p], flown.course, isDoubling(flown.ahead), flown.riders);
        }

        int quartersOf(int p, Horse flown) {
            if (!hasPeg(p)) {
                return 0;
            }
            boolean toTheLeft = kinds[p] == TURNED && flown.course >= SOUTH;
            return (toTheLeft ? -quarters[p] : quarters[p]) & 3;
        }

        void turnPeg(Horse flown, int p) {
            int lift = liftOf(p, flown);
            int turned = quartersOf(p, flown);
            flown.height = within(flown.height + lift, HIGH);
            flown.course = (flown.course + turned) & 3;
            glide(flown);
            flown.ahead = p;
        }

        /** An hour without a turn. */
        void glide(Horse flown) {
            flown.step(flown.course);
            flown.step(windAt(flown.height));
            flown.hours++;
            flown.ahead = NONE;
        }
    }

    /** THE TEXT, and how it is read. */
    private static final class Script {
        final char[] signs = new char[MOST_LETTERS];
        final int[] numbers = new int[4];
        int length, at;

        boolean add(char sign) {
            if (length >= MOST_LETTERS) {
                return false;
            }
            signs[length] = sign;
            length++;
            return true;
        }

        /** Reads items up to the first one that is not so: its place, or NONE. */
        int readInto(Plan target) {
            target.clear();
            at = 0;
            // an item takes a letter at least, so there are no more items than letters
            for (int item = 0; item < MOST_LETTERS && at < length; item++) {
                int place = at;
                if (!readItem(target)) {
                    return place;
                }
            }
            return NONE;
        }

        private boolean readItem(Plan target) {
            int kind = sign();
            at++;
            int many = numbersOf(kind);
            for (int i = 0; i < many; i++) {
                numbers[i] = readNumber();
                if (numbers[i] < 0 || sign() != (i < many - 1 ? ',' : ';')) {
                    return false;
                }
                at++;
            }
            return tell(target, kind);
        }

        private boolean tell(Plan target, int kind) {
            switch (kind) {
                case 'p': return target.addPeg(numbers[0], numbers[1], numbers[2]);
                case 'w': return target.setWind(numbers[0], numbers[1]);
                case 'r': return target.addRoof(numbers[0], numbers[1]);
                case 'b': return target.begin(numbers[0], numbers[1], numbers[2], numbers[3]);
                case 't': return target.setRiders(numbers[0]);
                default: return false;
            }
        }

        private static int numbersOf(int kind) {
            switch (kind) {
                case 'p': return 3;
                case 'w': return 2;
                case 'r': return 2;
                case 'b': return 4;
                case 't': return 1;
                default: return 0;
            }
        }

        /** A number of one or two figures; less than 0 if there is none. */
        private int readNumber() {
            int first = readFigure();
            if (first < 0) {
                return first;
            }
            int second = readFigure();
            return second < 0 ? first : 10 * first + second;
        }

        private int readFigure() {
            int sign = sign();
            if (sign < '0' || sign > '9') {
                return -1;
            }
            at++;
            return sign - '0';
        }

        /** The letter that is next; behind the last one a number that is no letter. */
        private int sign() {
            return at >= 0 && at < length && at < MOST_LETTERS ? signs[at] : 0;
        }
    }

    /** Horses as they were, the latest one last. */
    private static final class Shelf {
        final Horse[] horses;
        int size;

        Shelf(int most) {
            horses = new Horse[Math.max(1, most)];
            for (int i = 0; i < horses.length; i++) {
                horses[i] = new Horse();
            }
        }

        boolean isFull() {
            return size >= horses.length;
        }

        /** Where there is no room left the oldest one goes. */
        void put(Horse current) {
            if (isFull()) {
                dropOldest();
            }
            horses[size].copy(current);
            size++;
        }

        boolean takeLast(Horse target) {
            if (size < 1 || size > horses.length) {
                return false;
            }
            size--;
            target.copy(horses[size]);
            return true;
        }

        private void dropOldest() {
            // its row is used again behind the others, so that no new one is made
            Horse oldest = horses[0];
            for (int i = 1; i < horses.length; i++) {
                horses[i - 1] = horses[i];
            }
            horses[horses.length - 1] = oldest;
            size = horses.length - 1;
        }
    }

    /** What was seen of pegs: by how much one lifted on a course. */
    private static final class Sightings {
        final int[] pegs = new int[MOST_SEEN];
        final int[] courses = new int[MOST_SEEN];
        final int[] lifted = new int[MOST_SEEN];
        int size;

        boolean add(int p, int course, int by) {
            if (size >= MOST_SEEN) {
                return false;
            }
            pegs[size] = p;
            courses[size] = course;
            lifted[size] = by;
            size++;
            return true;
        }

        /** Whether all that was seen of a peg would be so, were it of this kind and lift. */
        boolean allow(int p, int kind, int lift) {
            for (int i = 0; i < size; i++) {
                if (pegs[i] == p && liftBy(kind, lift, courses[i], false, 1) != lifted[i]) {
                    return false;
                }
            }
            return true;
        }
    }

    /**
     * What can come of turns from now on. A PLACE is a number for all that the next turn depends
     * on, but for who rides, which no turn changes: height, y, x, course, whether a DOUBLING peg
     * is ahead.
     */
    private static final class Outlook {
        static final int PLACES = 8000, PLACE_BITS = 13;
        final Plan plan;
        final Horse flown = new Horse();
        // path and place of each place that was met, those of fewer turns and lower pegs ahead
        final int[] line = new int[PLACES];
        final int[] met = new int[PLACES / 32];
        int from, to;

        Outlook(Plan plan) {
            this.plan = plan;
        }

        void startAt(Horse current) {
            for (int i = 0; i < met.length; i++) {
                met[i] = 0;
            }
            from = 0;
            to = 0;
            meet(0, enter(current));
        }

        /** Goes on to the places that one turn more leads to, and no fewer turns do. */
        void grow() {
            int end = to;
            for (int i = from; i < end; i++) {
                int path = line[i] >> PLACE_BITS;
                int place = line[i] & ((1 << PLACE_BITS) - 1);
                if (heightOf(place) > 0) {
                    for (int p = 0; p < plan.pegs; p++) {
                        meet(8 * path + p, after(place, p));
                    }
                }
            }
            from = end;
        }

        /** The first path of as many turns as it has grown that has landed there; -1 if none has. */
        int pathTo(int x, int y) {
            for (int i = from; i < to; i++) {
                standAt(line[i] & ((1 << PLACE_BITS) - 1));
                if (flown.isDown() && flown.x == x && flown.y == y) {
                    return line[i] >> PLACE_BITS;
                }
            }
            return -1;
        }

        /** Roofs, as bits, on which it has landed by as many turns as it has grown. */
        int roofsReached() {
            int bits = 0;
            for (int r = 0; r < plan.roofs; r++) {
                if (pathTo(plan.roofXs[r], plan.roofYs[r]) >= 0) {
                    bits |= 1 << r;
                }
            }
            return bits;
        }

        private void meet(int path, int place) {
            if (place < 0 || place >= PLACES || to >= PLACES) {
                return;
            }
            int bit = 1 << (place & 31);
            if ((met[place >> 5] & bit) == 0) {
                met[place >> 5] |= bit;
                line[to] = path << PLACE_BITS | place;
                to++;
            }
        }

        int after(int place, int p) {
            standAt(place);
            plan.turnPeg(flown, p);
            return placeOf(flown);
        }

        /** The place where a horse is; who rides it ride from there on. */
        int enter(Horse current) {
            flown.riders = current.riders;
            return placeOf(current);
        }

        private int placeOf(Horse current) {
            int spot = 100 * current.height + current.spot();
            return 8 * spot + 2 * current.course + (plan.isDoubling(current.ahead) ? 1 : 0);
        }

        boolean isLanding(int place) {
            standAt(place);
            return plan.hasLanded(flown);
        }

        private void standAt(int place) {
            int spot = place >> 3;
            flown.height = heightOf(place);
            flown.y = spot / 10 % 10;
            flown.x = spot % 10;
            flown.course = place >> 1 & 3;
            flown.ahead = (place & 1) == 1 ? plan.firstDoubling() : NONE;
        }

        static int heightOf(int place) {
            return place / 800;
        }
    }
}
