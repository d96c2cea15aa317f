/** A pool of memory pages that are granted to joins of tables. */
public final class JoinGrants {
    public static final int UNKNOWN = -1;
    public static final int BAD_VALUE = -2;
    public static final int FULL = -3;
    public static final int NOT_POSSIBLE = -4;
    public static final int NONE = -5;

    private static final int FAULT_AT_START = -100;
    private static final int LEAST_PAGES = 3;
    private static final int MOST_PAGES = 500;
    private static final int MOST_STEPS = 1000;
    private static final int LONGEST_WAIT = 20000;

    private final Pool pool = new Pool();
    private final History history = new History();
    private final JoinText text = new JoinText();
    private final Pool snapshot = new Pool();
    private boolean snapshotTaken;
    // What is only tried out is tried on these two, so that no call makes objects.
    private final Pool trialPool = new Pool();
    private final Plan trialPlan = new Plan();

    /** Creates a pool with 100 pages, without joins. */
    public JoinGrants() {
        snapshotTaken = false;
    }

    // ---- joins

    /** A join comes; it waits, and the queue is gone through. */
    public int ask(int way, int left, int right) {
        if (!Plan.fits(way, left, right)) {
            return BAD_VALUE;
        }
        if (pool.room() < 1) {
            return FULL;
        }
        history.record(pool);
        return pool.take(way, left, right);
    }

    /** The joins of the text come, all of them or none. */
    public int askAll() {
        int fault = text.read();
        if (fault != JoinText.NO_FAULT) {
            return FAULT_AT_START - fault;
        }
        int joins = text.joins();
        if (joins > pool.room()) {
            return FULL;
        }
        history.record(pool);
        for (int i = 0; i < joins; i++) {
            pool.take(text.wayOf(i), text.leftOf(i), text.rightOf(i));
        }
        return joins;
    }

    /** Cancels a join that waits or is at work; returns the pages that it had. */
    public int cancel(int join) {
        Join one = pool.find(join);
        if (one == null) {
            return UNKNOWN;
        }
        if (!one.isIn(Join.WAITING) && !one.isIn(Join.AT_WORK)) {
            return NOT_POSSIBLE;
        }
        history.record(pool);
        int had = one.pages();
        one.end(Join.CANCELLED);
        pool.goThroughQueue();
        return had;
    }

    /** Changes the way of a join that waits; returns the previous one. */
    public int change(int join, int way) {
        Join one = pool.find(join);
        if (one == null) {
            return UNKNOWN;
        }
        if (!Plan.isWay(way)) {
            return BAD_VALUE;
        }
        if (!one.isIn(Join.WAITING)) {
            return NOT_POSSIBLE;
        }
        int previous = one.way();
        if (previous == way) {
            return NONE;
        }
        history.record(pool);
        one.changeWay(way);
        pool.goThroughQueue();
        return previous;
    }

    /** Lets steps pass; returns how many joins are done in them. */
    public int step(int steps) {
        if (steps < 1 || steps > MOST_STEPS) {
            return BAD_VALUE;
        }
        history.record(pool);
        int doneBefore = pool.joinsIn(Join.DONE);
        int passed = 0;
        while (passed < steps) {
            passed += Math.max(1, pool.leap(steps - passed));
        }
        return pool.joinsIn(Join.DONE) - doneBefore;
    }

    /** Sets a setting; returns the previous one. */
    public int set(int which, int value) {
        if (!Pool.allows(which, value)) {
            return BAD_VALUE;
        }
        int previous = pool.setting(which);
        if (previous == value) {
            return NONE;
        }
        history.record(pool);
        pool.changeSetting(which, value);
        return previous;
    }

    // ---- texts

    /** Types a character behind the text; returns its length then. */
    public int type(char character) {
        return text.append(character) ? text.length() : FULL;
    }

    /** Empties the text; returns the length that it had. */
    public int clearText() {
        int had = text.length();
        text.clear();
        return had;
    }

    // ---- history

    /** Restores the latest state of the history; returns how many are left. */
    public int undo() {
        return history.takeBack(pool) ? history.size() : NONE;
    }

    /** Takes a snapshot of the state; returns the steps so far. */
    public int keep() {
        snapshot.copyFrom(pool);
        snapshotTaken = true;
        return pool.steps();
    }

    /** Restores the state of the snapshot; returns the steps so far, as they are then. */
    public int restore() {
        if (!snapshotTaken) {
            return NONE;
        }
        history.record(pool);
        pool.copyFrom(snapshot);
        return pool.steps();
    }

    // ---- what is told

    /** Tells one of twelve things about a join. */
    public int join(int join, int what) {
        Join one = pool.find(join);
        if (one == null) {
            return UNKNOWN;
        }
        return Join.canTell(what) ? one.tell(what) : BAD_VALUE;
    }

    /** Tells why a join does not start now. */
    public int why(int join) {
        Join one = pool.find(join);
        return one == null ? UNKNOWN : pool.hindrance(one);
    }

    /** Tells the join at a rank of the queue. */
    public int queue(int rank) {
        if (rank < 0) {
            return BAD_VALUE;
        }
        Join one = pool.atRank(rank);
        return one == null ? NONE : one.number();
    }

    /** Tells the work of a way for two tables with some pages. */
    public int work(int way, int left, int right, int pages) {
        if (!Plan.fits(way, left, right) || !isPages(pages)) {
            return BAD_VALUE;
        }
        trialPlan.make(way, left, right);
        return pages < trialPlan.need ? NONE : trialPlan.workWith(pages);
    }

    /** Tells the way with the least work for two tables with some pages. */
    public int bestWay(int left, int right, int pages) {
        if (!Plan.fits(Plan.LOOPS, left, right) || !isPages(pages)) {
            return BAD_VALUE;
        }
        // Loops are always possible.
        trialPlan.make(Plan.LOOPS, left, right);
        int best = Plan.LOOPS;
        int least = trialPlan.workWith(pages);
        for (int way = Plan.BUCKETS; way <= Plan.MERGING; way++) {
            trialPlan.make(way, left, right);
            if (pages >= trialPlan.need && trialPlan.workWith(pages) < least) {
                best = way;
                least = trialPlan.workWith(pages);
            }
        }
        return best;
    }

    /** Tells in how many steps a join will be done, if nothing else comes. */
    public int doneIn(int join) {
        trialPool.copyFrom(pool);
        Join tried = trialPool.find(join);
        if (tried == null) {
            return UNKNOWN;
        }
        if (tried.isIn(Join.CANCELLED)) {
            return NOT_POSSIBLE;
        }
        int passed = 0;
        while (!tried.isIn(Join.DONE) && passed < LONGEST_WAIT) {
            passed += Math.max(1, trialPool.leap(LONGEST_WAIT - passed));
        }
        return tried.isIn(Join.DONE) ? passed : NONE;
    }

    /** Tells one of eighteen numbers of the whole. */
    public int count(int what) {
        if (what == 16) {
            return history.size();
        }
        if (what == 17) {
            return text.length();
        }
        return Pool.canTell(what) ? pool.tell(what) : BAD_VALUE;
    }

    /** Tells the sum of pages that joins at work have more than they need. */
    public int spare() {
        return pool.surplus();
    }

    private static boolean isPages(int pages) {
        return pages >= LEAST_PAGES && pages <= MOST_PAGES;
    }

    /** A way of joining two tables: what it needs, what it wants and how much work it is. */
    private static final class Plan {
        static final int LOOPS = 0;
        static final int BUCKETS = 1;
        static final int MERGING = 2;
        private static final int MOST_OF_A_TABLE = 200;
        private static final int GREATEST_ROOT = 20;

        private int way;
        private int left;
        private int right;
        private int need;
        private int want;

        static boolean isWay(int way) {
            return way >= LOOPS && way <= MERGING;
        }

        static boolean fits(int way, int left, int right) {
            return isWay(way) && isTable(left) && isTable(right);
        }

        private static boolean isTable(int pages) {
            return pages >= 1 && pages <= MOST_OF_A_TABLE;
        }

        void make(int newWay, int newLeft, int newRight) {
            left = newLeft;
            right = newRight;
            changeWay(newWay);
        }

        void changeWay(int newWay) {
            way = newWay;
            need = computedNeed();
            want = Math.max(need, computedWant());
        }

        private int computedNeed() {
            switch (way) {
                case BUCKETS:
                    return root(right) + 2;
                case MERGING:
                    return root(left + right) + 2;
                default:
                    return 3;
            }
        }

        private int computedWant() {
            switch (way) {
                case BUCKETS:
                    return right + right / 5 + 2;
                case MERGING:
                    return (left + right) / 2 + 3;
                default:
                    return right + 2;
            }
        }

        /** The greatest whole number whose square is at most x, two tables being the most. */
        private static int root(int x) {
            for (int root = GREATEST_ROOT; root > 0; root--) {
                if (root * root <= x) {
                    return root;
                }
            }
            return 0;
        }

        /** Its work with some pages, which are at least what it needs. */
        int workWith(int pages) {
            if (pages < LEAST_PAGES) {
                return 0;
            }
            int both = left + right;
            if (way == LOOPS) {
                return left + right * ((left + pages - 3) / (pages - 2));
            }
            if (way == BUCKETS) {
                return pages >= want ? both : 3 * both;
            }
            int runs = (both + pages - 1) / pages;
            int mergings = 0;
            while (runs > 1 && mergings < both) {
                runs = (runs + pages - 2) / (pages - 1);
                mergings++;
            }
            return both * (2 * mergings + 1);
        }

        boolean spillsWith(int pages) {
            return way != LOOPS && pages < want;
        }

        void copyFrom(Plan other) {
            way = other.way;
            left = other.left;
            right = other.right;
            need = other.need;
            want = other.want;
        }
    }

    /** A join, or the place of one that has not come yet. */
    private static final class Join {
        static final int WAITING = 0;
        static final int AT_WORK = 1;
        static final int DONE = 2;
        static final int CANCELLED = 3;
        private static final int NOT_COME = -1;

        private final int number;
        private final Plan plan = new Plan();
        private int state = NOT_COME;
        private int pages;
        private int workLeft;
        private int stepsWaited;
        private int stepsWorked;
        private int givenBack;

        Join(int number) {
            this.number = number;
        }

        void come(int way, int left, int right) {
            plan.make(way, left, right);
            state = WAITING;
        }

        void changeWay(int newWay) {
            plan.changeWay(newWay);
        }

        void start(int granted) {
            state = AT_WORK;
            pages = granted;
            workLeft = plan.workWith(granted);
        }

        /** Is in a state from now on in which it has neither pages nor work. */
        void end(int newState) {
            state = newState;
            pages = 0;
            workLeft = 0;
        }

        /** Goes on with fewer pages, which makes its work grow. */
        void giveBack(int given) {
            long before = plan.workWith(pages);
            long after = plan.workWith(pages - given);
            if (before > 0) {
                workLeft = (int) ((workLeft * after + before - 1) / before) + given;
            }
            pages -= given;
            givenBack += given;
        }

        /** Lets steps pass; returns the work that is taken off. */
        int pass(int steps, int speed) {
            if (state == WAITING) {
                stepsWaited += steps;
            }
            if (state != AT_WORK) {
                return 0;
            }
            stepsWorked += steps;
            int taken = Math.min(workLeft, steps * speed);
            workLeft -= taken;
            return taken;
        }

        /** In how many steps it has no work left, if it keeps its pages. */
        int stepsLeft(int speed) {
            return speed < 1 ? 1 : (workLeft + speed - 1) / speed;
        }

        boolean hasWorkedAll() {
            return state == AT_WORK && workLeft == 0;
        }

        int surplus() {
            return state == AT_WORK ? pages - plan.need : 0;
        }

        boolean spills() {
            return state == AT_WORK && plan.spillsWith(pages);
        }

        boolean isIn(int someState) {
            return state == someState;
        }

        int number() {
            return number;
        }

        int way() {
            return plan.way;
        }

        int need() {
            return plan.need;
        }

        int want() {
            return plan.want;
        }

        int pages() {
            return pages;
        }

        static boolean canTell(int what) {
            return what >= 0 && what <= 11;
        }

        int tell(int what) {
            switch (what) {
                case 0:
                    return plan.way;
                case 1:
                    return plan.left;
                case 2:
                    return plan.right;
                case 3:
                    return state;
                case 4:
                    return plan.need;
                case 5:
                    return plan.want;
                case 6:
                    return pages;
                case 7:
                    return workLeft;
                case 8:
                    return stepsWaited;
                case 9:
                    return stepsWorked;
                case 10:
                    return givenBack;
                default:
                    return spills() ? 1 : 0;
            }
        }

        void copyFrom(Join other) {
            plan.copyFrom(other.plan);
            state = other.state;
            pages = other.pages;
            workLeft = other.workLeft;
            stepsWaited = other.stepsWaited;
            stepsWorked = other.stepsWorked;
            givenBack = other.givenBack;
        }
    }

    /** A whole state: the settings, the joins and what is counted of them. */
    private static final class Pool {
        private static final int MOST_JOINS = 16;
        private static final int PAGES = 0;
        private static final int ORDER = 1;
        private static final int ASKING_BACK = 2;
        private static final int SPEED = 3;
        private static final int[] LOWEST = {20, 0, 0, 1};
        private static final int[] HIGHEST = {500, 1, 1, 50};
        private static final int[] FIRST = {100, 0, 0, 10};

        private final int[] settings = FIRST.clone();
        private final Join[] joins = new Join[MOST_JOINS];
        private int joinsSoFar;
        private int mostGranted;
        private int steps;
        private int workDone;
        private int askedBack;

        Pool() {
            for (int i = 0; i < joins.length; i++) {
                joins[i] = new Join(i);
            }
        }

        static boolean allows(int which, int value) {
            return which >= 0 && which < LOWEST.length && which < HIGHEST.length
                    && value >= LOWEST[which] && value <= HIGHEST[which];
        }

        int setting(int which) {
            return which >= 0 && which < settings.length ? settings[which] : 0;
        }

        void changeSetting(int which, int value) {
            if (which >= 0 && which < settings.length) {
                settings[which] = value;
                goThroughQueue();
            }
        }

        /** How many joins can still come. */
        int room() {
            return joins.length - joinsSoFar;
        }

        /** The join with a number, or null. */
        Join find(int number) {
            return number >= 0 && number < joinsSoFar && number < joins.length ? joins[number] : null;
        }

        /** A join comes; returns its number, or FULL. */
        int take(int way, int left, int right) {
            if (joinsSoFar >= joins.length) {
                return FULL;
            }
            Join newest = joins[joinsSoFar];
            joinsSoFar++;
            newest.come(way, left, right);
            goThroughQueue();
            return newest.number();
        }

        /** Starts those that wait, in their order, until one does not start. */
        void goThroughQueue() {
            for (int i = 0; i < joins.length; i++) {
                Join first = firstInQueue();
                if (first == null || !start(first)) {
                    return;
                }
            }
        }

        private Join firstInQueue() {
            Join first = null;
            for (Join each : joins) {
                if (each.isIn(Join.WAITING) && (first == null || isAhead(each, first))) {
                    first = each;
                }
            }
            return first;
        }

        /** Starts one that waits, if there are pages for it. */
        private boolean start(Join waiting) {
            int need = waiting.need();
            int lacking = need - free();
            if (lacking <= 0) {
                waiting.start(Math.min(free(), waiting.want()));
            } else if (canAskBack(lacking)) {
                askBack(lacking);
                waiting.start(need);
            } else {
                return false;
            }
            mostGranted = Math.max(mostGranted, granted());
            return true;
        }

        private boolean canAskBack(int lacking) {
            return setting(ASKING_BACK) == 1 && granted() <= setting(PAGES) && surplus() >= lacking;
        }

        private void askBack(int lacking) {
            int open = lacking;
            for (int i = 0; i < joins.length && open > 0; i++) {
                Join giver = richest();
                if (giver == null) {
                    return;
                }
                int given = Math.min(open, giver.surplus());
                giver.giveBack(given);
                askedBack += given;
                open -= given;
            }
        }

        /** The join that has the most more than it needs, of several the first. */
        private Join richest() {
            Join best = null;
            for (Join each : joins) {
                if (best == null || each.surplus() > best.surplus()) {
                    best = each;
                }
            }
            return best;
        }

        private boolean isAhead(Join one, Join other) {
            int need = one.need();
            int otherNeed = other.need();
            if (setting(ORDER) == 1 && need != otherNeed) {
                return need < otherNeed;
            }
            return one.number() < other.number();
        }

        /** How many that wait are ahead of one that waits. */
        private int rankOf(Join one) {
            int rank = 0;
            for (Join each : joins) {
                if (each.isIn(Join.WAITING) && isAhead(each, one)) {
                    rank++;
                }
            }
            return rank;
        }

        /** The join at a rank of the queue, or null. */
        Join atRank(int rank) {
            for (Join each : joins) {
                if (each.isIn(Join.WAITING) && rankOf(each) == rank) {
                    return each;
                }
            }
            return null;
        }

        /** Why a join does not start: 0 if it need not, 1 to 3 for the pool, the queue, the pages. */
        int hindrance(Join one) {
            if (!one.isIn(Join.WAITING)) {
                return 0;
            }
            if (one.need() > setting(PAGES)) {
                return 1;
            }
            return rankOf(one) > 0 ? 2 : 3;
        }

        /**
         * Lets steps pass until the next join is done, but at most so many; returns how many.
         * They pass in one go, as nothing else happens in them.
         */
        int leap(int most) {
            int speed = setting(SPEED);
            int passed = most;
            for (Join each : joins) {
                if (each.isIn(Join.AT_WORK)) {
                    passed = Math.min(passed, each.stepsLeft(speed));
                }
            }
            boolean anyDone = false;
            for (Join each : joins) {
                workDone += each.pass(passed, speed);
                if (each.hasWorkedAll()) {
                    each.end(Join.DONE);
                    anyDone = true;
                }
            }
            steps += passed;
            if (anyDone) {
                goThroughQueue();
            }
            return passed;
        }

        int steps() {
            return steps;
        }

        private int granted() {
            int sum = 0;
            for (Join each : joins) {
                sum += each.pages();
            }
            return sum;
        }

        private int free() {
            return Math.max(0, setting(PAGES) - granted());
        }

        int surplus() {
            int sum = 0;
            for (Join each : joins) {
                sum += each.surplus();
            }
            return sum;
        }

        private int spilling() {
            int sum = 0;
            for (Join each : joins) {
                sum += each.spills() ? 1 : 0;
            }
            return sum;
        }

        int joinsIn(int state) {
            int sum = 0;
            for (Join each : joins) {
                sum += each.isIn(state) ? 1 : 0;
            }
            return sum;
        }

        static boolean canTell(int what) {
            return what >= 0 && what <= 15;
        }

        int tell(int what) {
            switch (what) {
                case 0:
                    return joinsSoFar;
                case 1:
                case 2:
                case 3:
                case 4:
                    return joinsIn(what - 1);
                case 5:
                    return granted();
                case 6:
                    return free();
                case 7:
                    return mostGranted;
                case 8:
                    return steps;
                case 9:
                    return workDone;
                case 10:
                    return askedBack;
                case 11:
                    return spilling();
                default:
                    return setting(what - 12);
            }
        }

        void copyFrom(Pool other) {
            for (int i = 0; i < settings.length && i < other.settings.length; i++) {
                settings[i] = other.settings[i];
            }
            for (int i = 0; i < joins.length && i < other.joins.length; i++) {
                joins[i].copyFrom(other.joins[i]);
            }
            joinsSoFar = other.joinsSoFar;
            mostGranted = other.mostGranted;
            steps = other.steps;
            workDone = other.workDone;
            askedBack = other.askedBack;
        }
    }

    /** The latest states, the oldest first. */
    private static final class History {
        private static final int MOST_STATES = 4;

        private final Pool[] states = new Pool[MOST_STATES];
        private int size;

        History() {
            for (int i = 0; i < states.length; i++) {
                states[i] = new Pool();
            }
        }

        void record(Pool state) {
            if (size >= states.length) {
                dropOldest();
            }
            states[size].copyFrom(state);
            size++;
        }

        /** Drops the oldest state, whose room is kept for the next one. */
        private void dropOldest() {
            Pool oldest = states[0];
            for (int i = 1; i < states.length; i++) {
                states[i - 1] = states[i];
            }
            states[states.length - 1] = oldest;
            size = states.length - 1;
        }

        /** Gives a pool the latest state and removes it; false if there is none. */
        boolean takeBack(Pool pool) {
            if (size < 1 || size > states.length) {
                return false;
            }
            size--;
            pool.copyFrom(states[size]);
            return true;
        }

        int size() {
            return size;
        }
    }

    /** The text of joins and what was read from it last. */
    private static final class JoinText {
        static final int NO_FAULT = -1;
        private static final int MOST_CHARACTERS = 60;
        // The shortest join takes five characters with its comma, and the last one has none.
        private static final int MOST_JOINS = 12;
        private static final int GREATEST_NUMBER = 200;
        private static final int AT_WAY = 0;
        private static final int AT_LEFT = 1;
        private static final int AT_RIGHT = 2;

        private final char[] characters = new char[MOST_CHARACTERS];
        private int length;
        private final int[] ways = new int[MOST_JOINS];
        private final int[] lefts = new int[MOST_JOINS];
        private final int[] rights = new int[MOST_JOINS];
        private int joins;
        private int place;
        private int way;
        private int left;
        private int number;

        boolean append(char character) {
            if (length >= characters.length) {
                return false;
            }
            characters[length] = character;
            length++;
            return true;
        }

        void clear() {
            length = 0;
        }

        int length() {
            return length;
        }

        /** Reads the joins; returns the fault of the text, or NO_FAULT. */
        int read() {
            joins = 0;
            place = AT_WAY;
            number = 0;
            for (int i = 0; i < length && i < characters.length; i++) {
                if (!takes(characters[i])) {
                    return i;
                }
            }
            if (place != AT_RIGHT || number == 0) {
                return length;
            }
            endJoin();
            return NO_FAULT;
        }

        private boolean takes(char character) {
            if (place == AT_WAY) {
                return takesWay(character);
            }
            if (character >= '0' && character <= '9') {
                return takesDigit(character - '0');
            }
            if (number == 0) {
                return false;
            }
            if (place == AT_LEFT && character == 'x') {
                left = number;
                number = 0;
                place = AT_RIGHT;
                return true;
            }
            if (place == AT_RIGHT && character == ',') {
                endJoin();
                return true;
            }
            return false;
        }

        private boolean takesWay(char character) {
            if (character == 'l') {
                way = Plan.LOOPS;
            } else if (character == 'b') {
                way = Plan.BUCKETS;
            } else if (character == 'm') {
                way = Plan.MERGING;
            } else {
                return false;
            }
            place = AT_LEFT;
            return true;
        }

        private boolean takesDigit(int digit) {
            int longer = number * 10 + digit;
            if (longer == 0 || longer > GREATEST_NUMBER) {
                return false;
            }
            number = longer;
            return true;
        }

        private void endJoin() {
            if (joins < ways.length && joins < lefts.length && joins < rights.length) {
                ways[joins] = way;
                lefts[joins] = left;
                rights[joins] = number;
                joins++;
            }
            number = 0;
            place = AT_WAY;
        }

        int joins() {
            return joins;
        }

        int wayOf(int index) {
            return index >= 0 && index < ways.length ? ways[index] : 0;
        }

        int leftOf(int index) {
            return index >= 0 && index < lefts.length ? lefts[index] : 0;
        }

        int rightOf(int index) {
            return index >= 0 && index < rights.length ? rights[index] : 0;
        }
    }
}
