/**
 * The sentences under "Joins", "The pool" and "Steps" of the document's terms that name a boundary:
 * the last value inside it and the first one outside, on each side that there is.
 */
public final class PoolEdgesTest {
    private static final Checks CHECKS = new Checks();
    private static final int MIN = Integer.MIN_VALUE;
    private static final int MAX = Integer.MAX_VALUE;

    public static void main(String[] args) {
        calls512();
        sixteenJoinsEver();
        ways();
        tables();
        states();
        needsByRoots();
        wantsRoundedDown();
        wantsAreNoLessThanNeeds();
        workOfLoops();
        workOfBuckets();
        workOfMerging();
        spills();
        settings();
        startsWithAtLeastItsNeed();
        getsAtMostItsWant();
        asksBackOnlyIfSet();
        asksBackOnlyIfFreePagesLack();
        asksBackIfAllTogetherSuffice();
        asksTheRichestFirst();
        asksTheLowestOfEquals();
        asksForWhatLacks();
        workLeftIsRoundedUp();
        queueOfEqualNeeds();
        allStartAtOnce();
        thoseBehindWaitToo();
        eachEventGoesThroughTheQueue();
        smallerPoolKeepsGrants();
        smallerPoolStartsNone();
        smallerPoolAsksNothingBack();
        workLeftIsAtLeast0();
        doneBeforeTheQueue();
        startedWorksFromTheNextStep();
        CHECKS.end("PoolEdgesTest");
    }

    private static void due(String call, long got, long want) {
        CHECKS.due(call, got, want);
    }

    /** A pool of 100 pages in which just so many are free, one join being at work. */
    private static JoinGrants withFree(int pages) {
        JoinGrants pool = new JoinGrants();
        due("ask(0, 9, ..)", pool.ask(0, 9, 98 - pages), 0);
        due("free pages", pool.count(6), pages);
        return pool;
    }

    private static void calls512() {
        CHECKS.of("\"An object is used for at most 512 calls\"");
        JoinGrants pool = new JoinGrants();
        pool.ask(0, 200, 200);
        for (int i = 1; i <= 510; i++) {
            due("step(1000)", pool.step(1000), i == 1 ? 1 : 0);
        }
        due("count(8), the 512th call", pool.count(8), 510000);
        pool = new JoinGrants();
        for (int i = 1; i <= 511; i++) {
            due("set(3, ..)", pool.set(3, 1 + i % 2), i == 1 ? 10 : 1 + (i - 1) % 2);
        }
        due("undo(), the 512th call", pool.undo(), 3);
    }

    private static void sixteenJoinsEver() {
        CHECKS.of("\"There are at most 16 joins ever, numbered from 0\"");
        JoinGrants pool = new JoinGrants();
        due("join(0, 0), none", pool.join(0, 0), JoinGrants.UNKNOWN);
        for (int i = 0; i < 16; i++) {
            due("ask, number " + i, pool.ask(0, 1, 1), i);
            due("join(-1, 0)", pool.join(-1, 0), JoinGrants.UNKNOWN);
            due("join(" + i + ", 0)", pool.join(i, 0), 0);
            due("join(" + (i + 1) + ", 0)", pool.join(i + 1, 0), JoinGrants.UNKNOWN);
        }
        due("ask, the 17th", pool.ask(0, 1, 1), JoinGrants.FULL);
        due("undo(), it was no act", pool.undo(), 3);
        due("ask, the 16th again", pool.ask(0, 1, 1), 15);
        due("step(1), all are done", pool.step(1), 16);
        due("ask, the 17th ever", pool.ask(0, 1, 1), JoinGrants.FULL);
        pool.undo();
        for (int i = 0; i < 16; i++) {
            due("cancel(" + i + ")", pool.cancel(i), 3);
        }
        due("ask, all are cancelled", pool.ask(0, 1, 1), JoinGrants.FULL);
        due("count(0)", pool.count(0), 16);
    }

    private static void ways() {
        CHECKS.of("\"each has a way (0 loops, 1 buckets, 2 merging)\"");
        JoinGrants pool = withFree(0);
        for (int way = 0; way <= 2; way++) {
            due("ask(" + way + ", 9, 9)", pool.ask(way, 9, 9), way + 1);
            due("its way", pool.join(way + 1, 0), way);
            due("its need", pool.join(way + 1, 4), new int[] {3, 5, 6}[way]);
            due("work(" + way + ", 9, 9, 6)", pool.work(way, 9, 9, 6), new int[] {36, 54, 54}[way]);
        }
        for (int way = 1; way <= 3; way++) {
            due("change(1, " + way % 3 + ")", pool.change(1, way % 3), way - 1);
        }
        for (int way : new int[] {-1, 3, MIN, MAX}) {
            due("ask(" + way + ", 9, 9)", pool.ask(way, 9, 9), JoinGrants.BAD_VALUE);
            due("change(1, " + way + ")", pool.change(1, way), JoinGrants.BAD_VALUE);
            due("work(" + way + ", 9, 9, 9)", pool.work(way, 9, 9, 9), JoinGrants.BAD_VALUE);
        }
        due("count(0)", pool.count(0), 4);
    }

    private static void tables() {
        CHECKS.of("\"two tables of l and r pages (1 to 200 each)\"");
        int[][] inside = {{1, 1}, {200, 1}, {1, 200}, {200, 200}};
        int[][] outside = {{0, 1}, {201, 1}, {1, 0}, {1, 201}, {0, 200}, {201, 200}, {200, 0}, {200, 201},
            {-1, 1}, {1, -1}, {MIN, 1}, {MAX, 1}, {1, MIN}, {1, MAX}};
        for (int way = 0; way <= 2; way++) {
            JoinGrants pool = new JoinGrants();
            for (int i = 0; i < inside.length; i++) {
                int left = inside[i][0];
                int right = inside[i][1];
                due("ask(" + way + ", " + left + ", " + right + ")", pool.ask(way, left, right), i);
                CHECKS.dueOfJoin(pool, i, way, left, right);
                due("work with 500 pages", pool.work(way, left, right, 500), left + right);
                due("bestWay with 500 pages", pool.bestWay(left, right, 500), 0);
            }
            for (int[] one : outside) {
                String tables = one[0] + ", " + one[1];
                due("ask(" + way + ", " + tables + ")", pool.ask(way, one[0], one[1]), JoinGrants.BAD_VALUE);
                due("work(" + way + ", " + tables + ", 500)", pool.work(way, one[0], one[1], 500), JoinGrants.BAD_VALUE);
                due("bestWay(" + tables + ", 500)", pool.bestWay(one[0], one[1], 500), JoinGrants.BAD_VALUE);
            }
            due("count(0)", pool.count(0), inside.length);
            due("count(16)", pool.count(16), inside.length);
        }
    }

    private static void states() {
        CHECKS.of("\"It waits (0), is at work (1), is done (2), or was cancelled (3).\"");
        JoinGrants pool = withFree(2);
        pool.ask(0, 1, 1);
        pool.ask(0, 1, 1);
        CHECKS.dueCounts(pool, 1, 2, 1, 0, 0);
        due("join(1, 3), it waits", pool.join(1, 3), 0);
        due("cancel(0)", pool.cancel(0), 98);
        due("join(0, 3), cancelled", pool.join(0, 3), 3);
        due("join(1, 3), at work", pool.join(1, 3), 1);
        due("step(1)", pool.step(1), 2);
        due("join(1, 3), done", pool.join(1, 3), 2);
        due("join(0, 3), cancelled as before", pool.join(0, 3), 3);
        CHECKS.dueCounts(pool, 1, 0, 0, 2, 1);
    }

    /** Checks a need, and that work wants no page less. */
    private static void dueNeed(int way, int left, int right, int need) {
        JoinGrants pool = new JoinGrants();
        pool.ask(way, left, right);
        String plan = "way " + way + " with " + left + " and " + right;
        due("need of " + plan, pool.join(0, 4), need);
        due("work of " + plan + " is told with it", pool.work(way, left, right, need) > 0 ? 1 : 0, 1);
        due("work of " + plan + " with one page less", pool.work(way, left, right, need - 1),
                need == 3 ? JoinGrants.BAD_VALUE : JoinGrants.NONE);
    }

    private static void needsByRoots() {
        CHECKS.of("\"root(x) is the greatest whole number whose square is at most x.\"");
        for (int root = 1; root <= 20; root++) {
            int first = Math.max(2, root * root);
            int last = Math.min(400, root * root + 2 * root);
            dueNeed(2, Math.max(1, first - 200), Math.min(200, first - 1), root + 2);
            dueNeed(2, Math.min(200, last - 1), Math.max(1, last - 200), root + 2);
            if (root <= 14) {
                dueNeed(1, 200, root * root, root + 2);
                dueNeed(1, 1, Math.min(200, root * root + 2 * root), root + 2);
            }
        }
        CHECKS.of("\"What a join needs: by loops 3\"");
        dueNeed(0, 1, 1, 3);
        dueNeed(0, 200, 1, 3);
        dueNeed(0, 1, 200, 3);
        dueNeed(0, 200, 200, 3);
    }

    private static void wantsRoundedDown() {
        CHECKS.of("\"What it wants\"");
        int[][] wants = {{0, 200, 1, 3}, {0, 1, 200, 202},
            {1, 200, 1, 3}, {1, 1, 4, 6}, {1, 1, 5, 8}, {1, 1, 9, 12}, {1, 1, 10, 14}, {1, 1, 199, 240}, {1, 1, 200, 242},
            {2, 1, 1, 4}, {2, 1, 2, 4}, {2, 2, 2, 5}, {2, 199, 199, 202}, {2, 199, 200, 202}, {2, 200, 200, 203}};
        for (int[] one : wants) {
            JoinGrants pool = new JoinGrants();
            pool.set(0, 500);
            pool.ask(one[0], one[1], one[2]);
            due("want of way " + one[0] + " with " + one[1] + " and " + one[2], pool.join(0, 5), one[3]);
            due("it gets that", pool.join(0, 6), one[3]);
        }
    }

    private static void wantsAreNoLessThanNeeds() {
        CHECKS.of("\"but at least what it needs\"");
        for (int way = 0; way <= 2; way++) {
            for (int table = 1; table <= 200; table++) {
                JoinGrants pool = new JoinGrants();
                pool.ask(way, 1, table);
                due("way " + way + ", table " + table, pool.join(0, 5) >= pool.join(0, 4) ? 1 : 0, 1);
            }
        }
    }

    private static void dueWork(int way, int left, int right, int pages, int want) {
        due("work(" + way + ", " + left + ", " + right + ", " + pages + ")",
                new JoinGrants().work(way, left, right, pages), want);
    }

    private static void workOfLoops() {
        CHECKS.of("\"by loops l + r * c, c being l / (g - 2), rounded up\"");
        dueWork(0, 10, 7, 3, 10 + 7 * 10);
        dueWork(0, 10, 7, 4, 10 + 7 * 5);
        dueWork(0, 10, 7, 5, 10 + 7 * 4);
        dueWork(0, 10, 7, 6, 10 + 7 * 3);
        dueWork(0, 10, 7, 7, 10 + 7 * 2);
        dueWork(0, 10, 7, 11, 10 + 7 * 2);
        dueWork(0, 10, 7, 12, 10 + 7);
        dueWork(0, 10, 7, 500, 10 + 7);
        dueWork(0, 200, 200, 3, 200 + 200 * 200);
        dueWork(0, 200, 200, 201, 200 + 200 * 2);
        dueWork(0, 200, 200, 202, 200 + 200);
        dueWork(0, 1, 200, 3, 1 + 200);
    }

    private static void workOfBuckets() {
        CHECKS.of("\"by buckets l + r if g is at least what it wants, otherwise 3 * (l + r)\"");
        dueWork(1, 30, 25, 6, JoinGrants.NONE);
        dueWork(1, 30, 25, 7, 165);
        dueWork(1, 30, 25, 31, 165);
        dueWork(1, 30, 25, 32, 55);
        dueWork(1, 200, 200, 15, JoinGrants.NONE);
        dueWork(1, 200, 200, 16, 1200);
        dueWork(1, 200, 200, 241, 1200);
        dueWork(1, 200, 200, 242, 400);
        dueWork(1, 200, 1, 3, 201);
    }

    private static void workOfMerging() {
        CHECKS.of("\"(0 if it is 1 at first)\"");
        int[][] tables = {{1, 1}, {2, 2}, {100, 90}, {199, 200}, {200, 200}};
        for (int[] one : tables) {
            int both = one[0] + one[1];
            dueWork(2, one[0], one[1], Math.max(3, both), both);
            dueWork(2, one[0], one[1], Math.max(3, both + 1), both);
            dueWork(2, one[0], one[1], Math.min(500, both + 100), both);
        }
        dueWork(2, 2, 3, 4, 15);
        dueWork(2, 2, 3, 5, 5);
        dueWork(2, 100, 90, 14, JoinGrants.NONE);
        dueWork(2, 100, 90, 15, 570);
        dueWork(2, 100, 90, 189, 570);
        dueWork(2, 100, 90, 190, 190);
        dueWork(2, 200, 200, 22, 1200);
        dueWork(2, 200, 200, 399, 1200);
        dueWork(2, 200, 200, 400, 400);
    }

    /** Checks whether a join spills that is alone in a pool of some pages, and gets them all. */
    private static void dueSpill(int way, int left, int right, int pages, int spill) {
        JoinGrants pool = new JoinGrants();
        pool.set(0, pages);
        pool.ask(way, left, right);
        due("way " + way + " got", pool.join(0, 6), pages);
        due("way " + way + " spills with " + pages, pool.join(0, 11), spill);
        due("joins that spill", pool.count(11), spill);
    }

    private static void spills() {
        CHECKS.of("\"It spills if g is less than what it wants, and its way is not loops.\"");
        dueSpill(0, 9, 50, 51, 0);
        dueSpill(0, 9, 50, 52, 0);
        dueSpill(1, 9, 50, 61, 1);
        dueSpill(1, 9, 50, 62, 0);
        dueSpill(2, 100, 90, 97, 1);
        dueSpill(2, 100, 90, 98, 0);
    }

    private static void settings() {
        CHECKS.of("\"The settings are (in parentheses: range; first value)\"");
        int[][] rows = {{20, 500, 100}, {0, 1, 0}, {0, 1, 0}, {1, 50, 10}};
        for (int which = 0; which < rows.length; which++) {
            int low = rows[which][0];
            int high = rows[which][1];
            int first = rows[which][2];
            JoinGrants pool = new JoinGrants();
            due("setting " + which + " at first", pool.count(12 + which), first);
            due("it is so already", pool.set(which, first), JoinGrants.NONE);
            for (int wrong : new int[] {low - 1, high + 1, MIN, MAX}) {
                due("set(" + which + ", " + wrong + ")", pool.set(which, wrong), JoinGrants.BAD_VALUE);
                due("it stays", pool.count(12 + which), first);
            }
            due("set(" + which + ", " + high + ")", pool.set(which, high), first);
            due("it is so", pool.count(12 + which), high);
            due("set(" + which + ", " + low + ")", pool.set(which, low), high);
            due("it is so", pool.count(12 + which), low);
            due("it is so already", pool.set(which, low), JoinGrants.NONE);
        }
    }

    private static void startsWithAtLeastItsNeed() {
        CHECKS.of("\"If they are at least what it needs\"");
        int[][] plans = {{0, 9, 9, 3}, {1, 7, 50, 9}, {2, 100, 90, 15}};
        for (int[] one : plans) {
            int need = one[3];
            for (int free = need - 1; free <= need + 1; free++) {
                JoinGrants pool = withFree(free);
                pool.ask(one[0], one[1], one[2]);
                due("need", pool.join(1, 4), need);
                due("state with " + free + " free", pool.join(1, 3), free < need ? 0 : 1);
                due("pages with " + free + " free", pool.join(1, 6), free < need ? 0 : free);
                due("why(1) with " + free + " free", pool.why(1), free < need ? 3 : 0);
            }
        }
    }

    private static void getsAtMostItsWant() {
        CHECKS.of("\"it gets as many of them as it wants, or all of them\"");
        int[][] plans = {{0, 9, 9, 11}, {1, 7, 10, 14}, {2, 9, 10, 12}};
        for (int[] one : plans) {
            int want = one[3];
            for (int free = want - 1; free <= want + 1; free++) {
                JoinGrants pool = withFree(free);
                pool.ask(one[0], one[1], one[2]);
                due("want", pool.join(1, 5), want);
                due("pages with " + free + " free", pool.join(1, 6), Math.min(free, want));
                due("still free", pool.count(6), Math.max(0, free - want));
            }
        }
    }

    private static void asksBackOnlyIfSet() {
        CHECKS.of("\"2 whether pages are asked back (0 or 1; 0)\"");
        JoinGrants pool = withFree(0);
        pool.ask(0, 1, 1);
        due("join(1, 3), it is 0 at first", pool.join(1, 3), 0);
        due("set(2, 1)", pool.set(2, 1), 0);
        due("join(1, 3), it is 1", pool.join(1, 3), 1);
        due("count(10)", pool.count(10), 3);
        due("set(2, 0)", pool.set(2, 0), 1);
        pool.ask(0, 1, 1);
        due("join(2, 3), it is 0 again", pool.join(2, 3), 0);
        due("count(10)", pool.count(10), 3);
    }

    private static void asksBackOnlyIfFreePagesLack() {
        CHECKS.of("\"Otherwise, if pages are asked back\"");
        JoinGrants pool = withFree(9);
        pool.set(2, 1);
        pool.ask(1, 7, 50);
        due("pages, 9 needed and 9 free", pool.join(1, 6), 9);
        due("nothing is asked back", pool.count(10), 0);
        pool = withFree(8);
        pool.set(2, 1);
        pool.ask(1, 7, 50);
        due("pages, 9 needed and 8 free", pool.join(1, 6), 9);
        due("one is asked back", pool.count(10), 1);
        due("it is from join 0", pool.join(0, 10), 1);
    }

    /** A pool of 20 pages without a free one; join 0 has 7 and join 1 has 7 more than it needs. */
    private static JoinGrants withSpare(int right) {
        JoinGrants pool = new JoinGrants();
        pool.set(0, 20);
        pool.set(2, 1);
        pool.ask(0, 5, 8);
        pool.ask(0, 5, right);
        return pool;
    }

    private static void asksBackIfAllTogetherSuffice() {
        CHECKS.of("\"together at least what it needs\"");
        for (int right : new int[] {8, 6}) {
            JoinGrants pool = withSpare(right);
            due("free pages", pool.count(6), 8 - right);
            due("spare()", pool.spare(), 7 + right - 1);
            pool.ask(1, 1, 169);
            due("need", pool.join(2, 4), 15);
            due("state, 15 needed and 14 there", pool.join(2, 3), 0);
            due("why(2)", pool.why(2), 3);
            due("nothing is asked back", pool.count(10), 0);
            due("join(0, 6)", pool.join(0, 6), 10);
            pool = withSpare(right);
            pool.ask(1, 1, 168);
            due("need", pool.join(2, 4), 14);
            due("pages, 14 needed and 14 there", pool.join(2, 6), 14);
            due("asked back, what was not free", pool.count(10), 14 - (8 - right));
            due("join(0, 6)", pool.join(0, 6), 3);
            due("join(1, 6)", pool.join(1, 6), 3);
            due("spare()", pool.spare(), 0);
            due("free pages", pool.count(6), 0);
        }
    }

    private static void asksTheRichestFirst() {
        CHECKS.of("\"from those that have the most more than they need\"");
        JoinGrants pool = new JoinGrants();
        pool.set(2, 1);
        pool.ask(1, 5, 40);
        pool.ask(2, 90, 90);
        CHECKS.dueOfJoin(pool, 0, 1, 5, 40, 1, 8, 50, 50);
        CHECKS.dueOfJoin(pool, 1, 2, 90, 90, 1, 15, 93, 50);
        pool.ask(0, 1, 1);
        due("join(0, 10), it has 42 more", pool.join(0, 10), 3);
        due("join(1, 10), it has 35 more, though it has as many", pool.join(1, 10), 0);
        pool = new JoinGrants();
        pool.set(2, 1);
        pool.ask(2, 90, 83);
        pool.cancel(0);
        pool.ask(2, 40, 45);
        pool.ask(0, 5, 60);
        due("join(1, 6)", pool.join(1, 6), 45);
        due("join(2, 6)", pool.join(2, 6), 55);
        pool.ask(0, 1, 1);
        due("join(1, 10), it has 34 more", pool.join(1, 10), 0);
        due("join(2, 10), it has 52 more", pool.join(2, 10), 3);
    }

    private static void asksTheLowestOfEquals() {
        CHECKS.of("\"of several from the one with the lowest number\"");
        JoinGrants pool = withSpare(8);
        pool.ask(1, 9, 9);
        due("join(0, 10), the lowest of two", pool.join(0, 10), 5);
        due("join(1, 10)", pool.join(1, 10), 0);
        pool.ask(1, 9, 9);
        due("join(0, 10), it has less then", pool.join(0, 10), 5);
        due("join(1, 10)", pool.join(1, 10), 5);
        pool.ask(0, 1, 1);
        due("join(0, 10), two have 2 more", pool.join(0, 10), 7);
        due("join(1, 10), one lacks still", pool.join(1, 10), 6);
    }

    private static void asksForWhatLacks() {
        CHECKS.of("\"each time as many as still lack, or as it has more\"");
        int[][] rows = {{36, 6, 0}, {49, 7, 0}, {64, 7, 1}, {81, 7, 2}, {144, 7, 5}};
        for (int[] row : rows) {
            JoinGrants pool = withSpare(6);
            pool.ask(1, 1, row[0]);
            int need = 2 + row[1] + row[2];
            due("need with 2 free", pool.join(2, 4), need);
            due("join(0, 10)", pool.join(0, 10), row[1]);
            due("join(1, 10)", pool.join(1, 10), row[2]);
            due("count(10)", pool.count(10), row[1] + row[2]);
            CHECKS.of("\"then it gets just what it needs\"");
            due("join(2, 6)", pool.join(2, 6), need);
            due("free pages", pool.count(6), 0);
        }
    }

    private static void workLeftIsRoundedUp() {
        CHECKS.of("\"rounded up, and the pages given back more\"");
        // The remainders are 0, 11, 6, 1, 8, 15 and 5.
        int[][] rows = {{0, 16, 21}, {1, 15, 20}, {2, 14, 19}, {3, 13, 18}, {8, 8, 11}, {13, 3, 4}, {15, 1, 2}};
        for (int[] row : rows) {
            JoinGrants pool = new JoinGrants();
            pool.set(0, 20);
            pool.set(2, 1);
            pool.set(3, 1);
            pool.ask(0, 6, 5);
            pool.ask(2, 50, 50);
            if (row[0] > 0) {
                pool.step(row[0]);
            }
            due("work that is left with 7 pages", pool.join(0, 7), row[1]);
            pool.ask(0, 1, 1);
            due("pages", pool.join(0, 6), 4);
            due(row[1] + " * 21 / 16, rounded up, and 3", pool.join(0, 7), row[2] + 3);
        }
    }

    private static void queueOfEqualNeeds() {
        CHECKS.of("\"those that need least first, of several as they came\"");
        JoinGrants pool = withFree(0);
        pool.set(1, 1);
        pool.ask(1, 1, 9);
        pool.ask(2, 4, 5);
        pool.ask(1, 1, 8);
        pool.ask(1, 1, 16);
        pool.ask(1, 1, 15);
        int[] ranks = {3, 1, 2, 5, 4};
        for (int rank = 0; rank < ranks.length; rank++) {
            due("queue(" + rank + ")", pool.queue(rank), ranks[rank]);
        }
        CHECKS.of("\"1 the order of the queue (0 as they came\"");
        pool.set(1, 0);
        for (int rank = 0; rank < ranks.length; rank++) {
            due("queue(" + rank + ")", pool.queue(rank), rank + 1);
        }
    }

    private static void allStartAtOnce() {
        CHECKS.of("\"each one is started\"");
        JoinGrants pool = new JoinGrants();
        pool.set(0, 20);
        pool.ask(2, 200, 200);
        for (int i = 1; i < 16; i++) {
            pool.ask(0, 1, 1);
        }
        due("those that wait, 22 needed of 20", pool.count(1), 16);
        due("set(0, 500)", pool.set(0, 500), 20);
        CHECKS.dueCounts(pool, 1, 0, 16, 0, 0, 203 + 15 * 3);
        due("undo()", pool.undo(), 3);
        due("set(0, 247), a page lacks for the last", pool.set(0, 247), 20);
        CHECKS.dueCounts(pool, 1, 1, 15, 0, 0, 203 + 14 * 3, 2);
        due("queue(0)", pool.queue(0), 15);
        due("set(0, 248)", pool.set(0, 248), 247);
        CHECKS.dueCounts(pool, 1, 0, 16, 0, 0, 203 + 15 * 3, 0);
        pool = withFree(0);
        for (int i = 1; i < 16; i++) {
            pool.ask(0, 1, 1);
        }
        due("those that wait", pool.count(1), 15);
        due("set(2, 1), all by pages that are asked back", pool.set(2, 1), 0);
        CHECKS.dueCounts(pool, 1, 0, 16, 0, 0, 100, 0);
        due("join(0, 10)", pool.join(0, 10), 15 * 3);
    }

    private static void thoseBehindWaitToo() {
        CHECKS.of("\"until one does not start (those behind it wait, too)\"");
        JoinGrants pool = withFree(8);
        pool.ask(1, 7, 50);
        pool.ask(0, 1, 1);
        due("join(1, 3), 9 needed and 8 free", pool.join(1, 3), 0);
        due("join(2, 3), 3 needed, but behind it", pool.join(2, 3), 0);
        due("why(2)", pool.why(2), 2);
        due("set(0, 101), one more", pool.set(0, 101), 100);
        due("join(1, 6)", pool.join(1, 6), 9);
        due("join(2, 3), 3 needed and none free", pool.join(2, 3), 0);
        due("set(0, 104), three more", pool.set(0, 104), 101);
        due("join(2, 6)", pool.join(2, 6), 3);
        pool = withFree(8);
        pool.ask(1, 7, 50);
        pool.ask(0, 1, 1);
        due("set(1, 1), the order", pool.set(1, 1), 0);
        due("join(2, 6), now ahead", pool.join(2, 6), 3);
        due("join(1, 3)", pool.join(1, 3), 0);
    }

    /** A pool with 2 free pages, in which a join waits that needs 9 and one that needs 3. */
    private static JoinGrants withTwoWaiting() {
        JoinGrants pool = withFree(2);
        pool.ask(1, 7, 50);
        pool.ask(0, 2, 2);
        due("both wait", pool.count(1), 2);
        return pool;
    }

    private static void eachEventGoesThroughTheQueue() {
        CHECKS.of("\"Whenever a join comes, is done or cancelled, its way is changed, or a setting is changed\"");
        JoinGrants pool = withFree(3);
        pool.ask(0, 2, 2);
        due("a join comes", pool.join(1, 6), 3);
        pool = withTwoWaiting();
        due("step(10)", pool.step(10), 0);
        due("join(1, 3)", pool.join(1, 3), 0);
        due("step(1)", pool.step(1), 1);
        due("a join is done", pool.join(1, 6), 62);
        due("and the second one behind it", pool.join(2, 6), 4);
        pool = withTwoWaiting();
        pool.cancel(0);
        due("one at work is cancelled", pool.join(1, 6), 62);
        due("and the second one behind it", pool.join(2, 6), 4);
        pool = withTwoWaiting();
        pool.set(0, 101);
        due("9 needed and 3 free", pool.count(1), 2);
        pool.cancel(1);
        due("one that waits is cancelled", pool.join(2, 6), 3);
        pool = withTwoWaiting();
        pool.set(0, 101);
        pool.change(1, 0);
        due("its way is changed", pool.join(1, 6), 3);
        pool = withTwoWaiting();
        pool.set(0, 114);
        due("setting 0 is changed", pool.join(1, 6), 16);
        pool = withTwoWaiting();
        pool.set(0, 101);
        pool.set(1, 1);
        due("setting 1 is changed", pool.join(2, 6), 3);
        pool = withTwoWaiting();
        pool.set(2, 1);
        due("setting 2 is changed", pool.join(1, 6) * 10 + pool.join(2, 6), 93);
    }

    private static void smallerPoolKeepsGrants() {
        CHECKS.of("\"joins at work keep what they have, even if that is more than the pool; then nothing is free\"");
        JoinGrants pool = withFree(80);
        due("set(0, 21)", pool.set(0, 21), 100);
        due("free pages, 20 granted of 21", pool.count(6), 1);
        due("set(0, 20)", pool.set(0, 20), 21);
        due("free pages, 20 granted of 20", pool.count(6), 0);
        pool = withFree(79);
        due("set(0, 20)", pool.set(0, 20), 100);
        due("free pages, 21 granted of 20", pool.count(6), 0);
        due("join(0, 6)", pool.join(0, 6), 21);
        due("pages granted", pool.count(5), 21);
        pool = withFree(0);
        due("set(0, 20)", pool.set(0, 20), 100);
        due("free pages, 98 granted of 20", pool.count(6), 0);
        due("join(0, 6)", pool.join(0, 6), 100);
        due("join(0, 10)", pool.join(0, 10), 0);
        due("spare()", pool.spare(), 97);
    }

    private static void smallerPoolStartsNone() {
        CHECKS.of("\"no join starts as long as more pages are granted than the pool has\"");
        JoinGrants pool = withFree(50);
        pool.ask(0, 9, 45);
        pool.set(0, 49);
        pool.ask(0, 1, 1);
        due("join(2, 3), 97 granted of 49", pool.join(2, 3), 0);
        due("cancel(1)", pool.cancel(1), 47);
        due("join(2, 3), 50 granted of 49", pool.join(2, 3), 0);
        due("free pages", pool.count(6), 0);
        pool.set(0, 50);
        due("join(2, 3), 50 granted of 50", pool.join(2, 3), 0);
        pool.set(0, 52);
        due("join(2, 3), 50 granted of 52", pool.join(2, 3), 0);
        pool.set(0, 53);
        due("join(2, 6), 50 granted of 53", pool.join(2, 6), 3);
    }

    private static void smallerPoolAsksNothingBack() {
        CHECKS.of("\"(nor is anything asked back) as long as more pages are granted than the pool has\"");
        JoinGrants pool = withFree(0);
        pool.set(2, 1);
        pool.set(0, 99);
        pool.ask(0, 1, 1);
        due("join(1, 3), 100 granted of 99", pool.join(1, 3), 0);
        due("nothing is asked back", pool.count(10), 0);
        due("join(0, 6)", pool.join(0, 6), 100);
        due("why(1)", pool.why(1), 3);
        due("doneIn(1), behind the other", pool.doneIn(1), 11 + 1);
        due("set(0, 100)", pool.set(0, 100), 99);
        due("join(1, 6), 100 granted of 100", pool.join(1, 6), 3);
        due("3 are asked back", pool.count(10), 3);
    }

    private static void workLeftIsAtLeast0() {
        CHECKS.of("\"each join at work has the setting 3 less work left, at least 0\"");
        int[][] plans = {{4, 5, 9}, {4, 6, 10}, {5, 6, 11}};
        for (int[] one : plans) {
            JoinGrants pool = new JoinGrants();
            pool.ask(0, one[0], one[1]);
            int work = one[2];
            due("work", pool.join(0, 7), work);
            due("doneIn(0)", pool.doneIn(0), work <= 10 ? 1 : 2);
            due("step(1) of " + work, pool.step(1), work <= 10 ? 1 : 0);
            due("work that is left", pool.join(0, 7), Math.max(0, work - 10));
            due("work that was taken off", pool.count(9), Math.min(10, work));
            due("state", pool.join(0, 3), work <= 10 ? 2 : 1);
            due("step(1)", pool.step(1), work <= 10 ? 0 : 1);
            due("work that was taken off", pool.count(9), work);
            due("steps at work", pool.join(0, 9), work <= 10 ? 1 : 2);
        }
    }

    private static void doneBeforeTheQueue() {
        CHECKS.of("\"then (once, if any is done) the queue is gone through\"");
        JoinGrants pool = new JoinGrants();
        pool.set(0, 20);
        pool.set(2, 1);
        pool.ask(0, 2, 8);
        pool.ask(0, 1, 8);
        pool.ask(1, 3, 196);
        pool.ask(0, 1, 1);
        due("both wait, 16 needed of 14", pool.count(1), 2);
        due("step(1), two are done at once", pool.step(1), 2);
        due("join(2, 6), of all their pages what it wants", pool.join(2, 6), 20 - 3);
        due("join(3, 6), asked back", pool.join(3, 6), 3);
        due("join(2, 10)", pool.join(2, 10), 3);
        due("none gave back before it was done", pool.join(0, 10) + pool.join(1, 10), 0);
    }

    private static void startedWorksFromTheNextStep() {
        CHECKS.of("\"A join that is started has all its work left; it counts for its steps from the next one on.\"");
        JoinGrants pool = withFree(2);
        pool.ask(0, 2, 8);
        due("doneIn(0)", pool.doneIn(0), 11);
        due("doneIn(1), one step behind it", pool.doneIn(1), 12);
        due("step(10)", pool.step(10), 0);
        CHECKS.dueOfJoin(pool, 1, 0, 2, 8, 0, 3, 10, 0, 0, 10, 0, 0, 0);
        due("step(1)", pool.step(1), 1);
        CHECKS.dueOfJoin(pool, 1, 0, 2, 8, 1, 3, 10, 10, 10, 11, 0, 0, 0);
        due("step(1)", pool.step(1), 1);
        CHECKS.dueOfJoin(pool, 1, 0, 2, 8, 2, 3, 10, 0, 0, 11, 1, 0, 0);
        due("count(9)", pool.count(9), 9 + 96 + 10);
    }
}
