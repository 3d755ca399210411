/**
 * Barges on a canal, which may pass one another only inside a lock.
 * ../shared/DOC.md says what every call answers; the words in capitals are explained there.
 */
public final class EelLocks {
    public static final int UNKNOWN = -1, OUTSIDE = -2, STATE = -3, FULL = -4, NONE = -9;

    private static final int MOST_LETTERS = 40;
    private static final int GREATEST_LETTER = 255;
    private static final int MOST_LOCKS = 5;
    private static final int MOST_BARGES = 6;
    private static final int MOST_ACTS = 14;
    private static final int MOST_SLOTS = 2;
    private static final int MOST_DAYS = 30;
    private static final int TENTHS = 10;

    private static final int AS_CAME = 0;
    private static final int SECOND_FIRST = 1;
    private static final int LIGHT_FIRST = 2;
    private static final int BY_TEA = 3;

    private static final int[] FACTORIALS = {1, 1, 2, 6, 24, 120, 720};

    private final Text text;
    private final Canal way;
    private final Acts acts;
    private final Slots slots;
    private final Outlook outlook;
    private final Guesses guesses;
    private long seedNow;

    public EelLocks() {
        text = new Text();
        way = new Canal();
        acts = new Acts();
        slots = new Slots();
        outlook = new Outlook();
        guesses = new Guesses();
    }

    // ---- the canal

    public int write(int letter) {
        if (letter < 0 || letter > GREATEST_LETTER) {
            return OUTSIDE;
        }
        if (text.length >= MOST_LETTERS) {
            return FULL;
        }
        text.append(letter);
        return text.length;
    }

    public int wipe() {
        int before = text.length;
        text.length = 0;
        return before;
    }

    public int fault() {
        return text.faultPlace();
    }

    public int canal() {
        if (text.faultPlace() != NONE) {
            return STATE;
        }
        way.makeFrom(text);
        acts.forgetAll();
        slots.forgetAll();
        return 10 * way.locks + way.barges;
    }

    public int barge(int barge, int what) {
        if (!way.hasBarge(barge)) {
            return UNKNOWN;
        }
        switch (what) {
            case 0:
                return way.lengths[barge];
            case 1:
                return way.weights[barge];
            case 2:
                return way.now.tea[barge];
            case 3:
                return way.now.placeOf(barge);
            case 4:
                return way.now.hours[barge];
            default:
                return OUTSIDE;
        }
    }

    public int lock(int lock, int what) {
        if (!way.hasLock(lock)) {
            return UNKNOWN;
        }
        switch (what) {
            case 0:
                return way.now.laws[lock];
            case 1:
                return way.isPassed(lock) ? 1 : 0;
            case 2:
                return way.now.loadsAt(lock);
            default:
                return OUTSIDE;
        }
    }

    // ---- acts

    public int pass() {
        if (way.locksLeft() == 0) {
            return STATE;
        }
        acts.remember(way.now);
        way.goThroughNext(way.now);
        return way.now.figures();
    }

    public int give(int barge, int lock) {
        if (!way.hasBarge(barge) || !way.hasLock(lock)) {
            return UNKNOWN;
        }
        if (way.now.tea[barge] < 1 || way.isPassed(lock)) {
            return STATE;
        }
        acts.remember(way.now);
        way.now.tea[barge]--;
        way.now.addLoads(barge, lock, 1);
        return way.now.loadsOf(barge, lock);
    }

    public int letBy(int barge) {
        if (!way.hasBarge(barge)) {
            return UNKNOWN;
        }
        int place = way.now.placeOf(barge);
        if (place >= way.barges - 1) {
            return STATE;
        }
        acts.remember(way.now);
        way.now.turn(place);
        return place + 1;
    }

    public int learn(int lock, int law) {
        if (!way.hasLock(lock)) {
            return UNKNOWN;
        }
        if (law < AS_CAME || law > BY_TEA) {
            return OUTSIDE;
        }
        int before = way.now.laws[lock];
        if (way.isPassed(lock) || before == law) {
            return STATE;
        }
        acts.remember(way.now);
        way.now.laws[lock] = law;
        return before;
    }

    public int undo() {
        if (acts.size == 0) {
            return STATE;
        }
        acts.takeBack(way.now);
        return acts.size;
    }

    // ---- the basin

    public int basin() {
        return way.atBasin().figures();
    }

    public int hour(int barge) {
        return way.hasBarge(barge) ? way.atBasin().hours[barge] : UNKNOWN;
    }

    public int gains(int barge) {
        return way.hasBarge(barge) ? outlook.gainsOf(way, barge) : UNKNOWN;
    }

    public int mates(int barge) {
        return way.hasBarge(barge) ? outlook.matesOf(way, barge) : UNKNOWN;
    }

    public int first(int one, int other) {
        int refusal = refusalOfTwo(one, other);
        return refusal != 0 ? refusal : outlook.firstOrder(way, one, other);
    }

    public int tea(int one, int other, boolean row) {
        int refusal = refusalOfTwo(one, other);
        if (refusal != 0) {
            return refusal;
        }
        int loads = outlook.leastLoads(way, one, other);
        return row || loads == NONE ? loads : outlook.howManyLoads(loads);
    }

    public int judge(int n, int row) {
        if (n < 1 || n > MOST_BARGES || row < 0 || !outlook.spread(row, n)) {
            return OUTSIDE;
        }
        return outlook.firstMisplaced(way, n);
    }

    public int share(int barge, boolean upper) {
        if (!way.hasBarge(barge)) {
            return UNKNOWN;
        }
        return tellFraction(outlook.shareAbove(way, barge), FACTORIALS[way.barges], upper);
    }

    // ---- who gave, rests, chances

    public int gave(int lock, int row, int what) {
        if (!way.hasLock(lock)) {
            return UNKNOWN;
        }
        if (!outlook.areAllBarges(way, row) || what < 0 || what > 2) {
            return OUTSIDE;
        }
        if (way.isPassed(lock)) {
            return STATE;
        }
        guesses.findGivers(way, lock, row);
        if (what == 0) {
            return guesses.found;
        }
        if (guesses.found == 0) {
            return NONE;
        }
        return what == 1 ? guesses.inAll : guesses.inNone;
    }

    public int rests(int one, int other, int lock, int what) {
        if (!way.hasBarge(one) || !way.hasBarge(other) || !way.hasLock(lock)) {
            return UNKNOWN;
        }
        if (one == other || what < 0 || what > 1) {
            return OUTSIDE;
        }
        if (way.isPassed(lock)) {
            return STATE;
        }
        guesses.findRests(way, one, other, lock);
        return what == 0 ? guesses.found : guesses.firstRest;
    }

    public int asleep(int barge, int place, int x, boolean upper) {
        if (!way.hasBarge(barge)) {
            return UNKNOWN;
        }
        if (place < 0 || place >= way.barges || x < 0 || x > TENTHS) {
            return OUTSIDE;
        }
        int below = power(TENTHS, way.locksLeft());
        return tellFraction(guesses.asleepAbove(way, barge, place, x), below, upper);
    }

    public long seed(long v) {
        long before = seedNow;
        seedNow = v;
        return before;
    }

    public int days(int barge, int m) {
        if (!way.hasBarge(barge)) {
            return UNKNOWN;
        }
        if (m < 1 || m > MOST_DAYS) {
            return OUTSIDE;
        }
        int often = 0;
        for (int day = 0; day < m; day++) {
            seedNow = seedNow * 6364136223846793005L + 1442695040888963407L;
            int givers = (int) ((seedNow >>> 33) % 64);
            if (guesses.isFirstIfAllGive(way, barge, givers)) {
                often++;
            }
        }
        return often;
    }

    // ---- slots

    public int keep(int slot) {
        if (slot < 0 || slot >= MOST_SLOTS) {
            return UNKNOWN;
        }
        slots.put(slot, way.now);
        return way.now.passed;
    }

    public int again(int slot) {
        if (slot < 0 || slot >= MOST_SLOTS) {
            return UNKNOWN;
        }
        if (!slots.isKept[slot]) {
            return STATE;
        }
        way.now.copyFrom(slots.states[slot]);
        acts.forgetAll();
        return way.now.passed;
    }

    public int count(int what) {
        switch (what) {
            case 0:
                return text.length;
            case 1:
                return way.locks;
            case 2:
                return way.barges;
            case 3:
                return way.now.passed;
            case 4:
                return way.now.figures();
            case 5:
                return sum(way.now.tea, way.barges);
            case 6:
                return sum(way.now.given, MOST_LOCKS * MOST_BARGES);
            case 7:
                return acts.size;
            case 8:
                return way.atBasin().greatestHour();
            default:
                return OUTSIDE;
        }
    }

    /** What refuses a call about two barges; 0, if nothing does. */
    private int refusalOfTwo(int one, int other) {
        if (!way.hasBarge(one) || !way.hasBarge(other)) {
            return UNKNOWN;
        }
        return one == other ? OUTSIDE : 0;
    }

    private static int sum(int[] numbers, int n) {
        int sum = 0;
        for (int i = 0; i < n && i < numbers.length; i++) {
            sum += numbers[i];
        }
        return sum;
    }

    private static int power(int base, int times) {
        int power = 1;
        for (int i = 0; i < times; i++) {
            power *= base;
        }
        return power;
    }

    private static int tellFraction(int above, int below, boolean upper) {
        int divisor = greatestDivisor(Math.abs(above), below);
        int told = upper ? above : below;
        return divisor > 1 ? told / divisor : told;
    }

    private static int greatestDivisor(int a, int b) {
        int greater = a;
        int smaller = b;
        // Euclid's steps on ints are fewer than 50; the bound is there so that the loop's end is plain
        for (int step = 0; step < 100 && smaller != 0; step++) {
            int rest = greater % smaller;
            greater = smaller;
            smaller = rest;
        }
        return greater;
    }

    /** The letters that were written, and whether they tell a canal. */
    private static final class Text {
        // what a letter may be, by those ahead of it
        private static final int DUE_HEAD = 0;
        private static final int DUE_PART = 1;
        private static final int DUE_LAW = 2;
        private static final int DUE_LENGTH = 3;
        private static final int DUE_WEIGHT = 4;
        private static final int DUE_TEA = 5;
        private static final int DUE_NOTHING = 6;

        final int[] letters = new int[MOST_LETTERS];
        int length;

        void append(int letter) {
            if (length < MOST_LETTERS) {
                letters[length] = letter;
                length++;
            }
        }

        int faultPlace() {
            int due = DUE_HEAD;
            int locks = 0;
            int barges = 0;
            for (int place = 0; place < length; place++) {
                int letter = letters[place];
                due = dueBehind(due, letter);
                locks += letter == 'K' ? 1 : 0;
                barges += letter == 'B' ? 1 : 0;
                if (due == DUE_NOTHING || locks > MOST_LOCKS || barges > MOST_BARGES) {
                    return place;
                }
            }
            return due == DUE_PART ? NONE : length;
        }

        private static int dueBehind(int due, int letter) {
            switch (due) {
                case DUE_HEAD:
                    return letter == 'C' ? DUE_PART : DUE_NOTHING;
                case DUE_PART:
                    return letter == 'K' ? DUE_LAW : letter == 'B' ? DUE_LENGTH : DUE_NOTHING;
                case DUE_LAW:
                    return letter >= '0' && letter <= '3' ? DUE_PART : DUE_NOTHING;
                case DUE_LENGTH:
                    return letter == '1' || letter == '2' ? DUE_WEIGHT : DUE_NOTHING;
                case DUE_WEIGHT:
                    return letter >= '0' && letter <= '9' ? DUE_TEA : DUE_NOTHING;
                case DUE_TEA:
                    return letter >= '0' && letter <= '9' ? DUE_PART : DUE_NOTHING;
                default:
                    return DUE_NOTHING;
            }
        }

        /** The figure at a place of a text without a fault. */
        int figureAt(int place) {
            return place >= 0 && place < length ? letters[place] - '0' : 0;
        }
    }

    /** All that acts change, slots keep and trials may change without harm. */
    private static final class State {
        /**
         * The barges from the front on; its first size places count.
         * None is there twice and size is never beyond the barges told, so what stands there is an index by barge.
         */
        final int[] row = new int[MOST_BARGES];
        final int[] hours = new int[MOST_BARGES];
        final int[] tea = new int[MOST_BARGES];
        final int[] laws = new int[MOST_LOCKS];
        /** The loads of each barge at lock 0, then those at lock 1, and so on. */
        final int[] given = new int[MOST_LOCKS * MOST_BARGES];
        int size;
        int passed;

        void copyFrom(State other) {
            System.arraycopy(other.row, 0, row, 0, MOST_BARGES);
            System.arraycopy(other.hours, 0, hours, 0, MOST_BARGES);
            System.arraycopy(other.tea, 0, tea, 0, MOST_BARGES);
            System.arraycopy(other.laws, 0, laws, 0, MOST_LOCKS);
            System.arraycopy(other.given, 0, given, 0, MOST_LOCKS * MOST_BARGES);
            size = other.size;
            passed = other.passed;
        }

        void clearAll() {
            for (int i = 0; i < MOST_LOCKS * MOST_BARGES; i++) {
                given[i] = 0;
            }
            clearHours();
            size = 0;
            passed = 0;
        }

        void clearHours() {
            for (int barge = 0; barge < MOST_BARGES; barge++) {
                hours[barge] = 0;
            }
        }

        int placeOf(int barge) {
            for (int place = 0; place < size; place++) {
                if (row[place] == barge) {
                    return place;
                }
            }
            return NONE;
        }

        boolean isAt(int place, int barge) {
            return place >= 0 && place < size && row[place] == barge;
        }

        /** The barge at a place and the one behind it change places. */
        void turn(int place) {
            if (place >= 0 && place + 1 < size) {
                int front = row[place];
                row[place] = row[place + 1];
                row[place + 1] = front;
            }
        }

        int figures() {
            int figures = 0;
            for (int place = 0; place < size; place++) {
                figures = 10 * figures + row[place] + 1;
            }
            return figures;
        }

        int greatestHour() {
            int greatest = 0;
            for (int place = 0; place < size; place++) {
                greatest = Math.max(greatest, hours[row[place]]);
            }
            return greatest;
        }

        int loadsOf(int barge, int lock) {
            return given[lock * MOST_BARGES + barge];
        }

        void addLoads(int barge, int lock, int loads) {
            given[lock * MOST_BARGES + barge] += loads;
        }

        int loadsAt(int lock) {
            int loads = 0;
            for (int barge = 0; barge < MOST_BARGES; barge++) {
                loads += loadsOf(barge, lock);
            }
            return loads;
        }
    }

    /** The locks and barges as told, how they stand now, and how they go on. */
    private static final class Canal {
        final int[] lengths = new int[MOST_BARGES];
        final int[] weights = new int[MOST_BARGES];
        final State now = new State();
        /** A copy of now, made again for every question, that goes on in its stead. */
        final State trial = new State();
        int locks;
        int barges;

        /** The text has no fault, so each sign K and B begins a whole part. */
        void makeFrom(Text text) {
            locks = 0;
            barges = 0;
            now.clearAll();
            for (int place = 0; place < text.length; place++) {
                int letter = text.letters[place];
                if (letter == 'K' && locks < MOST_LOCKS) {
                    now.laws[locks] = text.figureAt(place + 1);
                    locks++;
                } else if (letter == 'B' && barges < MOST_BARGES) {
                    lengths[barges] = text.figureAt(place + 1);
                    weights[barges] = text.figureAt(place + 2);
                    now.tea[barges] = text.figureAt(place + 3);
                    now.row[barges] = barges;
                    barges++;
                }
            }
            now.size = barges;
        }

        boolean hasBarge(int barge) {
            return barge >= 0 && barge < barges;
        }

        boolean hasLock(int lock) {
            return lock >= 0 && lock < locks;
        }

        boolean isPassed(int lock) {
            return lock < now.passed;
        }

        int locksLeft() {
            return locks - now.passed;
        }

        State newTrial() {
            trial.copyFrom(now);
            return trial;
        }

        State atBasin() {
            State end = newTrial();
            goOnTo(end, locks);
            return end;
        }

        /** Goes through what is left of the locks ahead of a lock; with the number of all of them, to the basin. */
        void goOnTo(State state, int lock) {
            for (int next = state.passed; next < lock; next++) {
                goThroughNext(state);
            }
        }

        void goThroughNext(State state) {
            int lock = state.passed;
            if (!hasLock(lock)) {
                return;
            }
            int hour = 0;
            for (int place = 0; place < state.size; place++) {
                boolean two = holdsTwo(state, place);
                int front = state.row[place];
                int behind = two ? state.row[place + 1] : front;
                hour = 1 + Math.max(hour, Math.max(state.hours[front], state.hours[behind]));
                state.hours[front] = hour;
                state.hours[behind] = hour;
                if (two) {
                    if (isSecondFirst(state, lock, front, behind)) {
                        state.turn(place);
                    }
                    place++;
                }
            }
            state.passed = lock + 1;
        }

        /** Whether the chamber that begins at a place takes the next barge, too. */
        boolean holdsTwo(State state, int place) {
            return place + 1 < state.size
                    && lengths[state.row[place]] == 1 && lengths[state.row[place + 1]] == 1;
        }

        boolean isSecondFirst(State state, int lock, int front, int behind) {
            switch (state.laws[lock]) {
                case SECOND_FIRST:
                    return true;
                case LIGHT_FIRST:
                    return weights[behind] < weights[front];
                case BY_TEA:
                    return state.loadsOf(behind, lock) > state.loadsOf(front, lock);
                default:
                    return false;
            }
        }

        /** The barge that goes into the next lock with a barge; NONE, if it goes alone. */
        int mateAtNext(State state, int barge) {
            for (int place = 0; place < state.size; place++) {
                if (holdsTwo(state, place)) {
                    if (state.row[place] == barge) {
                        return state.row[place + 1];
                    }
                    if (state.row[place + 1] == barge) {
                        return state.row[place];
                    }
                    place++;
                }
            }
            return NONE;
        }
    }

    /** The last acts, each as what was before it. */
    private static final class Acts {
        private final State[] before = new State[MOST_ACTS];
        private int oldest;
        int size;

        Acts() {
            for (int i = 0; i < MOST_ACTS; i++) {
                before[i] = new State();
            }
        }

        void remember(State state) {
            before[(oldest + size) % MOST_ACTS].copyFrom(state);
            if (size < MOST_ACTS) {
                size++;
            } else {
                oldest = (oldest + 1) % MOST_ACTS;
            }
        }

        void takeBack(State state) {
            if (size > 0) {
                size--;
                state.copyFrom(before[(oldest + size) % MOST_ACTS]);
            }
        }

        void forgetAll() {
            size = 0;
        }
    }

    private static final class Slots {
        final State[] states = new State[MOST_SLOTS];
        final boolean[] isKept = new boolean[MOST_SLOTS];

        Slots() {
            for (int slot = 0; slot < MOST_SLOTS; slot++) {
                states[slot] = new State();
            }
        }

        void put(int slot, State state) {
            if (slot >= 0 && slot < MOST_SLOTS) {
                states[slot].copyFrom(state);
                isKept[slot] = true;
            }
        }

        void forgetAll() {
            for (int slot = 0; slot < MOST_SLOTS; slot++) {
                isKept[slot] = false;
            }
        }
    }

    /** What can be told of the basin from here. */
    private static final class Outlook {
        private static final int NO_GIFT = -1;
        /** A gift is told as two figures, barge and lock. */
        private static final int GIFTS = 10 * MOST_BARGES;

        private final int[] order = new int[MOST_BARGES];
        private final int[] figures = new int[MOST_BARGES];

        int gainsOf(Canal way, int barge) {
            State trial = way.newTrial();
            int gains = 0;
            for (int lock = trial.passed; lock < way.locks; lock++) {
                int place = trial.placeOf(barge);
                way.goThroughNext(trial);
                if (trial.placeOf(barge) < place) {
                    gains |= 1 << lock;
                }
            }
            return gains;
        }

        int matesOf(Canal way, int barge) {
            State trial = way.newTrial();
            int mates = 0;
            for (int lock = trial.passed; lock < way.locks; lock++) {
                int mate = way.mateAtNext(trial, barge);
                if (mate != NONE) {
                    mates |= 1 << mate;
                }
                way.goThroughNext(trial);
            }
            return mates;
        }

        int firstOrder(Canal way, int one, int other) {
            for (int barge = 0; barge < way.barges; barge++) {
                order[barge] = barge;
            }
            for (int i = 0; i < FACTORIALS[way.barges]; i++) {
                State trial = way.newTrial();
                System.arraycopy(order, 0, trial.row, 0, way.barges);
                int told = trial.figures();
                if (suits(way, trial, one, other)) {
                    return told;
                }
                makeNextOrder(way.barges);
            }
            return NONE;
        }

        /** The next greater order of the first n; behind the last one nothing changes. */
        private void makeNextOrder(int n) {
            int rising = n - 2;
            while (rising >= 0 && order[rising] > order[rising + 1]) {
                rising--;
            }
            if (rising < 0) {
                return;
            }
            int greater = n - 1;
            while (greater > rising && order[greater] < order[rising]) {
                greater--;
            }
            exchange(rising, greater);
            // what is behind falls, so turned round it is its own first order
            for (int low = rising + 1, high = n - 1; low < high; low++, high--) {
                exchange(low, high);
            }
        }

        private void exchange(int i, int j) {
            int kept = order[i];
            order[i] = order[j];
            order[j] = kept;
        }

        private boolean suits(Canal way, State trial, int one, int other) {
            way.goOnTo(trial, way.locks);
            return trial.isAt(0, one) && !trial.isAt(way.barges - 1, other);
        }

        /** The first row of fewest gifts, as figures behind a 1; NONE. */
        int leastLoads(Canal way, int one, int other) {
            if (suitsWith(way, one, other, NO_GIFT, NO_GIFT)) {
                return 1;
            }
            for (int gift = 0; gift < GIFTS; gift++) {
                if (canGive(way, gift) && suitsWith(way, one, other, gift, NO_GIFT)) {
                    return 100 + gift;
                }
            }
            for (int gift = 0; gift < GIFTS; gift++) {
                for (int next = gift; canGive(way, gift) && next < GIFTS; next++) {
                    if (canGiveBoth(way, gift, next) && suitsWith(way, one, other, gift, next)) {
                        return 10000 + 100 * gift + next;
                    }
                }
            }
            return NONE;
        }

        int howManyLoads(int leastLoads) {
            return leastLoads < 100 ? 0 : leastLoads < 10000 ? 1 : 2;
        }

        private boolean canGive(Canal way, int gift) {
            int barge = gift / 10;
            int lock = gift % 10;
            return way.hasBarge(barge) && way.hasLock(lock) && !way.isPassed(lock)
                    && way.now.tea[barge] > 0;
        }

        private boolean canGiveBoth(Canal way, int gift, int next) {
            return canGive(way, gift) && canGive(way, next)
                    && (gift / 10 != next / 10 || way.now.tea[gift / 10] > 1);
        }

        private boolean suitsWith(Canal way, int one, int other, int gift, int next) {
            State trial = way.newTrial();
            if (gift != NO_GIFT) {
                trial.addLoads(gift / 10, gift % 10, 1);
            }
            if (next != NO_GIFT) {
                trial.addLoads(next / 10, next % 10, 1);
            }
            return suits(way, trial, one, other);
        }

        /** Makes n figures of a number that is not below 0; whether it has no more than these. */
        boolean spread(int told, int n) {
            int left = told;
            for (int place = n - 1; place >= 0; place--) {
                figures[place] = left % 10;
                left /= 10;
            }
            return left == 0;
        }

        boolean areAllBarges(Canal way, int told) {
            if (told < 0 || !spread(told, way.barges)) {
                return false;
            }
            int seen = 0;
            for (int place = 0; place < way.barges; place++) {
                seen |= 1 << figures[place];
            }
            // a figure twice, or one of no barge, leaves out another
            return seen == (2 << way.barges) - 2;
        }

        /** Of the n figures that were spread the place of the first that is not there at the basin; NONE. */
        int firstMisplaced(Canal way, int n) {
            State end = way.atBasin();
            for (int place = 0; place < n; place++) {
                if (!end.isAt(place, figures[place] - 1)) {
                    return place;
                }
            }
            return NONE;
        }

        /** What a barge adds, summed over all orders in which they may come. */
        int shareAbove(Canal way, int barge) {
            int above = 0;
            int told = 1 << barge;
            for (int come = 0; come < 1 << way.barges; come++) {
                if ((come & told) == 0) {
                    int ahead = Integer.bitCount(come);
                    int orders = FACTORIALS[ahead] * FACTORIALS[way.barges - 1 - ahead];
                    above += orders * (lastHourOf(way, come | told) - lastHourOf(way, come));
                }
            }
            return above;
        }

        private int lastHourOf(Canal way, int come) {
            State trial = way.newTrial();
            trial.clearHours();
            trial.size = 0;
            for (int place = 0; place < way.barges; place++) {
                int barge = way.now.row[place];
                if ((come >> barge & 1) == 1) {
                    trial.row[trial.size] = barge;
                    trial.size++;
                }
            }
            way.goOnTo(trial, way.locks);
            return trial.greatestHour();
        }
    }

    /** What others may have given, or might, and what chance does. */
    private static final class Guesses {
        /** A barge gives 0 to 3 loads. */
        private static final int CHOICES = 4;
        private static final int LOSS_BY_PLACE = 4;

        private final int[] lossOfOne = new int[CHOICES * CHOICES];
        private final int[] lossOfOther = new int[CHOICES * CHOICES];
        int found;
        int inAll;
        int inNone;
        int firstRest;

        void findGivers(Canal way, int lock, int told) {
            int all = (1 << way.barges) - 1;
            int inSome = 0;
            found = 0;
            inAll = all;
            for (int givers = 0; givers <= all; givers++) {
                if (comesOutSo(way, lock, givers, told)) {
                    found++;
                    inAll &= givers;
                    inSome |= givers;
                }
            }
            inNone = all & ~inSome;
        }

        private boolean comesOutSo(Canal way, int lock, int givers, int told) {
            State trial = way.newTrial();
            trial.laws[lock] = BY_TEA;
            addGivers(way, trial, lock, givers);
            way.goOnTo(trial, lock + 1);
            return trial.figures() == told;
        }

        private void addGivers(Canal way, State trial, int lock, int givers) {
            for (int barge = 0; barge < way.barges; barge++) {
                trial.addLoads(barge, lock, givers >> barge & 1);
            }
        }

        void findRests(Canal way, int one, int other, int lock) {
            findLosses(way, one, other, lock);
            found = 0;
            firstRest = NONE;
            for (int a = 0; a < CHOICES; a++) {
                for (int b = 0; b < CHOICES; b++) {
                    if (isAtRest(a, b)) {
                        firstRest = found == 0 ? 10 * a + b : firstRest;
                        found++;
                    }
                }
            }
        }

        private void findLosses(Canal way, int one, int other, int lock) {
            for (int a = 0; a < CHOICES; a++) {
                for (int b = 0; b < CHOICES; b++) {
                    State trial = way.newTrial();
                    trial.addLoads(one, lock, a);
                    trial.addLoads(other, lock, b);
                    way.goOnTo(trial, way.locks);
                    lossOfOne[CHOICES * a + b] = LOSS_BY_PLACE * trial.placeOf(one) + a;
                    lossOfOther[CHOICES * a + b] = LOSS_BY_PLACE * trial.placeOf(other) + b;
                }
            }
        }

        private boolean isAtRest(int a, int b) {
            for (int choice = 0; choice < CHOICES; choice++) {
                if (lossOfOne[CHOICES * choice + b] < lossOfOne[CHOICES * a + b]
                        || lossOfOther[CHOICES * a + choice] < lossOfOther[CHOICES * a + b]) {
                    return false;
                }
            }
            return true;
        }

        /** The chance in parts of 10 to the number of the locks left. */
        int asleepAbove(Canal way, int barge, int place, int x) {
            int left = way.locksLeft();
            int above = 0;
            for (int sleepers = 0; sleepers < 1 << left; sleepers++) {
                if (isAtWith(way, barge, place, sleepers)) {
                    int asleep = Integer.bitCount(sleepers);
                    above += power(x, asleep) * power(TENTHS - x, left - asleep);
                }
            }
            return above;
        }

        /** Whether a barge is at a place at the basin, if some (bits, from the next lock on) are asleep. */
        private boolean isAtWith(Canal way, int barge, int place, int sleepers) {
            State trial = way.newTrial();
            for (int lock = trial.passed; lock < way.locks; lock++) {
                if ((sleepers >> lock - trial.passed & 1) == 1) {
                    trial.laws[lock] = AS_CAME;
                }
            }
            way.goOnTo(trial, way.locks);
            return trial.isAt(place, barge);
        }

        boolean isFirstIfAllGive(Canal way, int barge, int givers) {
            State trial = way.newTrial();
            for (int lock = trial.passed; lock < way.locks; lock++) {
                addGivers(way, trial, lock, givers);
            }
            way.goOnTo(trial, way.locks);
            return trial.isAt(0, barge);
        }
    }
}
