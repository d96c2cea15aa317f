/**
 * The boundaries that promises 1, 2, 4 to 7 and 13 to 20 name in their arguments and their @return
 * lines, and the order of the checks where several errors can apply.
 */
public final class PromiseEdgesTest {
    private static final Checks CHECKS = new Checks();
    private static final int MIN = Integer.MIN_VALUE;
    private static final int MAX = Integer.MAX_VALUE;
    private static final int[] NO_JOINS = {-1, 4, 16, MIN, MAX};

    public static void main(String[] args) {
        newObject();
        askChecksInOrder();
        cancelChecksInOrder();
        cancelTellsThePages();
        changeChecksInOrder();
        stepsOfOneCall();
        stepTellsHowManyAreDone();
        setChecks();
        joinChecksInOrder();
        joinTellsNoneOfThoseNotAtWork();
        joinCountsSteps();
        whyByThePool();
        whyByTheQueue();
        whyInOrder();
        queueRanks();
        workPages();
        workChecksInOrder();
        bestWayPages();
        bestWayOfEquals();
        bestWayByNeed();
        doneInUpTo20000();
        doneInOfOneThatWaits();
        doneInNever();
        doneInIsTried();
        doneInChecksInOrder();
        countOfWhat();
        countOfFreePages();
        countOfTheMostGranted();
        spareOfThoseAtWork();
        CHECKS.end("PromiseEdgesTest");
    }

    private static void due(String call, long got, long want) {
        CHECKS.due(call, got, want);
    }

    private static void newObject() {
        CHECKS.of("\"Creates a pool with 100 pages, without joins.\"");
        JoinGrants pool = new JoinGrants();
        CHECKS.dueCounts(pool, 0, 0, 0, 0, 0, 0, 0, 100, 0, 0, 0, 0, 0, 100, 0, 0, 10, 0, 0);
        due("join(0, 0)", pool.join(0, 0), JoinGrants.UNKNOWN);
        due("ask, 100 pages wanted", pool.ask(0, 1, 98), 0);
        due("it has 100", pool.join(0, 6), 100);
        pool = new JoinGrants();
        due("ask, 101 pages wanted", pool.ask(0, 1, 99), 0);
        due("it has 100", pool.join(0, 6), 100);
    }

    /** Joins 0 to 3: one that waits, one at work, one done, one cancelled. */
    private static JoinGrants ofAllStates() {
        JoinGrants pool = new JoinGrants();
        pool.set(0, 20);
        pool.set(1, 1);
        due("ask", pool.ask(2, 200, 200), 0);
        due("ask", pool.ask(0, 200, 3), 1);
        due("ask", pool.ask(0, 1, 1), 2);
        due("ask", pool.ask(0, 1, 1), 3);
        due("cancel(3)", pool.cancel(3), 3);
        due("step(1)", pool.step(1), 1);
        int[] states = {0, 1, 2, 3};
        for (int join = 0; join < states.length; join++) {
            due("join(" + join + ", 3)", pool.join(join, 3), states[join]);
        }
        return pool;
    }

    private static void askChecksInOrder() {
        CHECKS.of("\"Returns its number; BAD_VALUE; FULL if there have been 16.\"");
        JoinGrants pool = new JoinGrants();
        for (int i = 0; i < 15; i++) {
            pool.ask(0, 1, 1);
        }
        due("ask(3, 1, 1), 15 there", pool.ask(3, 1, 1), JoinGrants.BAD_VALUE);
        due("ask(0, 1, 1), 15 there", pool.ask(0, 1, 1), 15);
        due("ask(0, 1, 1), 16 there", pool.ask(0, 1, 1), JoinGrants.FULL);
        int[][] wrong = {{3, 1, 1}, {-1, 1, 1}, {0, 0, 1}, {0, 201, 1}, {0, 1, 0}, {0, 1, 201}, {3, 201, 201}};
        for (int[] one : wrong) {
            due("ask with a bad value, 16 there", pool.ask(one[0], one[1], one[2]), JoinGrants.BAD_VALUE);
        }
    }

    private static void cancelChecksInOrder() {
        CHECKS.of("\"UNKNOWN; NOT_POSSIBLE if it is done or cancelled\"");
        JoinGrants pool = ofAllStates();
        for (int join : NO_JOINS) {
            due("cancel(" + join + ")", pool.cancel(join), JoinGrants.UNKNOWN);
        }
        due("cancel(3), cancelled", pool.cancel(3), JoinGrants.NOT_POSSIBLE);
        due("cancel(2), done", pool.cancel(2), JoinGrants.NOT_POSSIBLE);
        due("cancel(1), at work", pool.cancel(1), 5);
        due("cancel(0), it waits", pool.cancel(0), 0);
        due("cancel(0) again", pool.cancel(0), JoinGrants.NOT_POSSIBLE);
        due("cancel(1) again", pool.cancel(1), JoinGrants.NOT_POSSIBLE);
        due("count(4)", pool.count(4), 3);
    }

    private static void cancelTellsThePages() {
        CHECKS.of("\"Returns the pages that it had (0 if it waited)\"");
        JoinGrants pool = new JoinGrants();
        pool.set(0, 500);
        pool.set(2, 1);
        pool.ask(1, 1, 200);
        pool.ask(0, 1, 1);
        pool.ask(2, 200, 200);
        due("free", pool.count(6), 500 - 242 - 3 - 203);
        due("cancel(0), what it wanted", pool.cancel(0), 242);
        due("cancel(1), the least", pool.cancel(1), 3);
        pool.set(0, 203);
        pool.ask(0, 1, 1);
        due("cancel(2), what it did not give back", pool.cancel(2), 200);
        due("join(2, 10)", pool.join(2, 10), 3);
        due("join(2, 6)", pool.join(2, 6), 0);
        due("join(2, 7)", pool.join(2, 7), 0);
        due("join(2, 11)", pool.join(2, 11), 0);
    }

    private static void changeChecksInOrder() {
        CHECKS.of("\"UNKNOWN; BAD_VALUE; NOT_POSSIBLE if it does not wait; NONE if it is so already\"");
        JoinGrants pool = ofAllStates();
        for (int join : NO_JOINS) {
            due("change(" + join + ", 0)", pool.change(join, 0), JoinGrants.UNKNOWN);
            due("change(" + join + ", 3)", pool.change(join, 3), JoinGrants.UNKNOWN);
        }
        for (int join = 0; join < 4; join++) {
            for (int way : new int[] {-1, 3, MIN, MAX}) {
                due("change(" + join + ", " + way + ")", pool.change(join, way), JoinGrants.BAD_VALUE);
            }
        }
        for (int join = 1; join < 4; join++) {
            due("change(" + join + ", 0), it is so", pool.change(join, 0), JoinGrants.NOT_POSSIBLE);
            due("change(" + join + ", 2)", pool.change(join, 2), JoinGrants.NOT_POSSIBLE);
        }
        due("change(0, 2), it is so", pool.change(0, 2), JoinGrants.NONE);
        due("change(0, 1)", pool.change(0, 1), 2);
        due("change(0, 1), it starts not with 15 of 16", pool.join(0, 3), 0);
        due("change(0, 0)", pool.change(0, 0), 1);
        due("it starts", pool.join(0, 6), 15);
        due("change(0, 1), at work", pool.change(0, 1), JoinGrants.NOT_POSSIBLE);
    }

    private static void stepsOfOneCall() {
        CHECKS.of("\"steps: 1 to 1000\"");
        JoinGrants pool = new JoinGrants();
        pool.set(3, 1);
        pool.set(0, 20);
        pool.ask(0, 200, 200);
        int work = pool.join(0, 7);
        due("work", work, 200 + 200 * 12);
        for (int steps : new int[] {0, -1, 1001, MIN, MAX}) {
            due("step(" + steps + ")", pool.step(steps), JoinGrants.BAD_VALUE);
        }
        due("count(8)", pool.count(8), 0);
        due("step(1)", pool.step(1), 0);
        due("join(0, 7)", pool.join(0, 7), work - 1);
        due("step(1000)", pool.step(1000), 0);
        due("join(0, 7)", pool.join(0, 7), work - 1001);
        due("step(999)", pool.step(999), 0);
        due("count(8)", pool.count(8), 2000);
        due("join(0, 9)", pool.join(0, 9), 2000);
        due("step(599)", pool.step(599), 0);
        due("step(1), the last", pool.step(1), 1);
    }

    private static void stepTellsHowManyAreDone() {
        CHECKS.of("\"Returns how many joins are done in them\"");
        JoinGrants pool = new JoinGrants();
        for (int i = 0; i < 16; i++) {
            pool.ask(0, 1, 1);
        }
        due("step(1), all at once", pool.step(1), 16);
        due("step(1), those of before do not count", pool.step(1), 0);
        pool = new JoinGrants();
        pool.set(0, 20);
        for (int i = 0; i < 16; i++) {
            pool.ask(0, 1, 18);
        }
        due("step(31), one in two steps", pool.step(31), 15);
        due("step(1)", pool.step(1), 1);
        due("undo()", pool.undo(), 3);
        due("undo()", pool.undo(), 2);
        due("step(1), before the first is done", pool.step(1), 0);
        due("step(1000), one behind the other", pool.step(1000), 16);
        pool = new JoinGrants();
        pool.ask(0, 1, 1);
        pool.cancel(0);
        due("step(1000), cancelled", pool.step(1000), 0);
    }

    private static void setChecks() {
        CHECKS.of("\"Returns the previous one; BAD_VALUE (which or value); NONE if it is so already.\"");
        JoinGrants pool = new JoinGrants();
        for (int which : new int[] {-1, 4, MIN, MAX}) {
            for (int value : new int[] {0, 1, 20, 100, -1}) {
                due("set(" + which + ", " + value + ")", pool.set(which, value), JoinGrants.BAD_VALUE);
            }
        }
        int[] first = {100, 0, 0, 10};
        int[] other = {101, 1, 1, 9};
        for (int which = 0; which < 4; which++) {
            due("set to what is so", pool.set(which, first[which]), JoinGrants.NONE);
            due("set to another", pool.set(which, other[which]), first[which]);
            due("set to that again", pool.set(which, other[which]), JoinGrants.NONE);
            due("set back", pool.set(which, first[which]), other[which]);
        }
        CHECKS.dueCounts(pool, 12, 100, 0, 0, 10);
    }

    private static void joinChecksInOrder() {
        CHECKS.of("\"Returns the number; UNKNOWN; BAD_VALUE.\"");
        JoinGrants pool = ofAllStates();
        for (int what : new int[] {-1, 12, MIN, MAX}) {
            for (int join : NO_JOINS) {
                due("join(" + join + ", " + what + ")", pool.join(join, what), JoinGrants.UNKNOWN);
            }
            for (int join = 0; join < 4; join++) {
                due("join(" + join + ", " + what + ")", pool.join(join, what), JoinGrants.BAD_VALUE);
            }
        }
        for (int what = 0; what <= 11; what++) {
            for (int join : NO_JOINS) {
                due("join(" + join + ", " + what + ")", pool.join(join, what), JoinGrants.UNKNOWN);
            }
        }
    }

    private static void joinTellsNoneOfThoseNotAtWork() {
        CHECKS.of("\"0 if it is not at work\"");
        JoinGrants pool = ofAllStates();
        CHECKS.dueOfJoin(pool, 0, 2, 200, 200, 0, 22, 203, 0, 0, 1, 0, 0, 0);
        CHECKS.dueOfJoin(pool, 1, 0, 200, 3, 1, 3, 5, 5, 391, 0, 1, 0, 0);
        CHECKS.dueOfJoin(pool, 2, 0, 1, 1, 2, 3, 3, 0, 0, 0, 1, 0, 0);
        CHECKS.dueOfJoin(pool, 3, 0, 1, 1, 3, 3, 3, 0, 0, 0, 0, 0, 0);
        pool = new JoinGrants();
        pool.ask(1, 200, 200);
        CHECKS.dueOfJoin(pool, 0, 1, 200, 200, 1, 16, 242, 100, 1200, 0, 0, 0, 1);
        pool.cancel(0);
        CHECKS.dueOfJoin(pool, 0, 1, 200, 200, 3, 16, 242, 0, 0, 0, 0, 0, 0);
        due("count(11)", pool.count(11), 0);
        pool.ask(1, 200, 200);
        pool.step(120);
        CHECKS.dueOfJoin(pool, 1, 1, 200, 200, 2, 16, 242, 0, 0, 0, 120, 0, 0);
        due("count(11)", pool.count(11), 0);
    }

    private static void joinCountsSteps() {
        CHECKS.of("\"8 for the steps at whose beginning it waited, 9 for those at whose beginning it was at work\"");
        JoinGrants pool = new JoinGrants();
        pool.set(0, 20);
        pool.ask(0, 1, 18);
        pool.ask(0, 1, 18);
        due("join(1, 8), none yet", pool.join(1, 8), 0);
        pool.step(1);
        due("join(1, 8)", pool.join(1, 8), 1);
        due("join(0, 9)", pool.join(0, 9), 1);
        pool.step(1);
        due("join(1, 8), it waited at the beginning of the second", pool.join(1, 8), 2);
        due("join(1, 9)", pool.join(1, 9), 0);
        due("join(0, 9), it was at work at the beginning of the second", pool.join(0, 9), 2);
        pool.step(1000);
        due("join(1, 8)", pool.join(1, 8), 2);
        due("join(1, 9), then it is done", pool.join(1, 9), 2);
        due("join(0, 9)", pool.join(0, 9), 2);
        pool = new JoinGrants();
        pool.set(0, 20);
        pool.ask(2, 200, 200);
        pool.step(1000);
        pool.step(1000);
        due("join(0, 8), it never starts", pool.join(0, 8), 2000);
        pool.cancel(0);
        pool.step(1);
        due("join(0, 8), cancelled", pool.join(0, 8), 2000);
    }

    private static void whyByThePool() {
        CHECKS.of("\"1 if it needs more pages than the pool has\"");
        int[][] plans = {{2, 200, 200, 22}, {2, 200, 161, 21}};
        for (int[] one : plans) {
            for (int pages = one[3] - 1; pages <= one[3] + 1; pages++) {
                JoinGrants pool = new JoinGrants();
                pool.ask(0, 1, 98);
                pool.ask(one[0], one[1], one[2]);
                pool.set(0, pages);
                due("need", pool.join(1, 4), one[3]);
                due("why(1), a pool of " + pages, pool.why(1), pages < one[3] ? 1 : 3);
            }
        }
        JoinGrants pool = new JoinGrants();
        pool.set(0, 20);
        pool.ask(2, 200, 160);
        due("why(0), 20 needed of 20", pool.why(0), 0);
        due("it is at work", pool.join(0, 6), 20);
    }

    private static void whyByTheQueue() {
        CHECKS.of("\"2 if another one is ahead of it in the queue, 3 if there are not enough pages\"");
        JoinGrants pool = new JoinGrants();
        pool.ask(0, 1, 98);
        pool.ask(1, 1, 9);
        pool.ask(1, 1, 4);
        pool.ask(1, 1, 4);
        int[][] whys = {{0, 3, 2, 2}, {0, 2, 3, 2}};
        for (int order = 0; order <= 1; order++) {
            pool.set(1, order);
            for (int join = 0; join < 4; join++) {
                due("why(" + join + "), order " + order, pool.why(join), whys[order][join]);
            }
        }
        pool.cancel(2);
        due("why(2), cancelled", pool.why(2), 0);
        due("why(3), none is ahead", pool.why(3), 3);
        CHECKS.of("\"Returns 0 if it is at work, done or cancelled\"");
        pool = ofAllStates();
        due("why(1), at work", pool.why(1), 0);
        due("why(2), done", pool.why(2), 0);
        due("why(3), cancelled", pool.why(3), 0);
        for (int join : NO_JOINS) {
            due("why(" + join + ")", pool.why(join), JoinGrants.UNKNOWN);
        }
    }

    private static void whyInOrder() {
        CHECKS.of("\"1 if .., 2 if .., 3 if ..\", the first that is so");
        JoinGrants pool = new JoinGrants();
        pool.set(0, 20);
        pool.ask(2, 200, 200);
        pool.ask(2, 200, 200);
        pool.ask(0, 1, 1);
        due("why(0), too much and the first", pool.why(0), 1);
        due("why(1), too much and behind another", pool.why(1), 1);
        due("why(2), behind others, with enough pages", pool.why(2), 2);
        pool.set(0, 21);
        due("why(1)", pool.why(1), 1);
        pool.set(0, 22);
        due("why(0), at work", pool.why(0), 0);
        due("why(1)", pool.why(1), 3);
        due("why(2)", pool.why(2), 2);
    }

    private static void queueRanks() {
        CHECKS.of("\"Returns the join; BAD_VALUE if rank is negative; NONE if there are not so many.\"");
        JoinGrants pool = new JoinGrants();
        pool.set(0, 20);
        for (int waiting = 0; waiting <= 16; waiting++) {
            due("queue(-1)", pool.queue(-1), JoinGrants.BAD_VALUE);
            due("queue(" + waiting + ")", pool.queue(waiting), JoinGrants.NONE);
            for (int rank = 0; rank < waiting; rank++) {
                due("queue(" + rank + ")", pool.queue(rank), rank);
            }
            pool.ask(2, 200, 200);
        }
        due("queue(MIN)", pool.queue(MIN), JoinGrants.BAD_VALUE);
        due("queue(MAX)", pool.queue(MAX), JoinGrants.NONE);
        due("queue(17)", pool.queue(17), JoinGrants.NONE);
        pool.set(0, 22);
        due("queue(0), 0 has started", pool.queue(0), 1);
        due("queue(14)", pool.queue(14), 15);
        due("queue(15)", pool.queue(15), JoinGrants.NONE);
        pool = new JoinGrants();
        pool.ask(0, 1, 1);
        due("queue(0), none waits", pool.queue(0), JoinGrants.NONE);
        due("queue(-1), none waits", pool.queue(-1), JoinGrants.BAD_VALUE);
    }

    private static void workPages() {
        CHECKS.of("\"pages: 3 to 500\"");
        JoinGrants pool = new JoinGrants();
        for (int pages : new int[] {2, 1, 0, -1, 501, MIN, MAX}) {
            due("work(0, 1, 1, " + pages + ")", pool.work(0, 1, 1, pages), JoinGrants.BAD_VALUE);
            due("bestWay(1, 1, " + pages + ")", pool.bestWay(1, 1, pages), JoinGrants.BAD_VALUE);
        }
        for (int way = 0; way <= 2; way++) {
            due("work(" + way + ", 1, 1, 3)", pool.work(way, 1, 1, 3), 2);
            due("work(" + way + ", 1, 1, 500)", pool.work(way, 1, 1, 500), 2);
        }
        due("bestWay(1, 1, 3)", pool.bestWay(1, 1, 3), 0);
        due("bestWay(1, 1, 500)", pool.bestWay(1, 1, 500), 0);
        pool.set(0, 20);
        due("work with more pages than the pool has", pool.work(0, 9, 9, 500), 18);
        CHECKS.of("\"NONE if it needs more pages\"");
        due("work(1, 1, 200, 15)", pool.work(1, 1, 200, 15), JoinGrants.NONE);
        due("work(1, 1, 200, 16)", pool.work(1, 1, 200, 16), 603);
        due("work(2, 1, 200, 15)", pool.work(2, 1, 200, 15), JoinGrants.NONE);
        due("work(2, 1, 200, 16)", pool.work(2, 1, 200, 16), 603);
        due("work(2, 2, 2, 3)", pool.work(2, 2, 2, 3), JoinGrants.NONE);
        due("work(2, 2, 2, 4)", pool.work(2, 2, 2, 4), 4);
    }

    private static void workChecksInOrder() {
        CHECKS.of("\"Returns the work; BAD_VALUE; NONE if it needs more pages.\"");
        JoinGrants pool = new JoinGrants();
        due("work(1, 1, 200, 2)", pool.work(1, 1, 200, 2), JoinGrants.BAD_VALUE);
        due("work(1, 1, 201, 3)", pool.work(1, 1, 201, 3), JoinGrants.BAD_VALUE);
        due("work(2, 201, 200, 3)", pool.work(2, 201, 200, 3), JoinGrants.BAD_VALUE);
        due("work(2, 0, 200, 3)", pool.work(2, 0, 200, 3), JoinGrants.BAD_VALUE);
        due("work(3, 200, 200, 3)", pool.work(3, 200, 200, 3), JoinGrants.BAD_VALUE);
        due("work(2, 200, 200, 3)", pool.work(2, 200, 200, 3), JoinGrants.NONE);
    }

    private static void bestWayPages() {
        CHECKS.of("\"Returns the way (loops are always possible)\"");
        JoinGrants pool = new JoinGrants();
        int[][] tables = {{1, 1}, {1, 200}, {200, 1}, {200, 200}};
        int[] least = {0, 0, 1, 0};
        for (int i = 0; i < tables.length; i++) {
            due("bestWay with 3 pages", pool.bestWay(tables[i][0], tables[i][1], 3), least[i]);
            due("bestWay with 500 pages", pool.bestWay(tables[i][0], tables[i][1], 500), 0);
            due("bestWay with 2 pages", pool.bestWay(tables[i][0], tables[i][1], 2), JoinGrants.BAD_VALUE);
            due("bestWay with 501 pages", pool.bestWay(tables[i][0], tables[i][1], 501), JoinGrants.BAD_VALUE);
        }
    }

    private static void bestWayOfEquals() {
        CHECKS.of("\"the one with the least work, of several the lowest one\"");
        JoinGrants pool = new JoinGrants();
        int[][] rows = {{20, 14, 22, 34, 34, 102, 0}, {20, 14, 21, 48, 34, 102, 1}, {9, 3, 3, 36, 36, JoinGrants.NONE, 0},
            {10, 3, 3, 40, 39, JoinGrants.NONE, 1}, {50, 60, 12, 350, 330, 330, 1}, {50, 60, 110, 110, 110, 110, 0}};
        for (int[] row : rows) {
            String tables = row[0] + ", " + row[1] + ", " + row[2] + ")";
            for (int way = 0; way <= 2; way++) {
                due("work(" + way + ", " + tables, pool.work(way, row[0], row[1], row[2]), row[3 + way]);
            }
            due("bestWay(" + tables, pool.bestWay(row[0], row[1], row[2]), row[6]);
        }
    }

    private static void bestWayByNeed() {
        CHECKS.of("\"the best way for two tables with some pages\", of those that they are enough for");
        JoinGrants pool = new JoinGrants();
        due("work(1, 50, 60, 8)", pool.work(1, 50, 60, 8), JoinGrants.NONE);
        due("bestWay(50, 60, 8)", pool.bestWay(50, 60, 8), 0);
        due("work(1, 50, 60, 9)", pool.work(1, 50, 60, 9), 330);
        due("bestWay(50, 60, 9)", pool.bestWay(50, 60, 9), 1);
        due("work(0, 50, 60, 14)", pool.work(0, 50, 60, 14), 350);
        due("bestWay(50, 60, 14)", pool.bestWay(50, 60, 14), 1);
        due("work(0, 50, 60, 15)", pool.work(0, 50, 60, 15), 290);
        due("bestWay(50, 60, 15)", pool.bestWay(50, 60, 15), 0);
        due("bestWay(200, 200, 15)", pool.bestWay(200, 200, 15), 0);
        due("bestWay(200, 200, 16)", pool.bestWay(200, 200, 16), 1);
    }

    private static void doneInUpTo20000() {
        CHECKS.of("\"NONE if it takes more than 20000\"");
        JoinGrants pool = new JoinGrants();
        pool.set(0, 20);
        pool.set(3, 1);
        pool.ask(0, 1, 15);
        pool.ask(0, 200, 100);
        due("work", pool.join(1, 7), 20200);
        for (int i = 1; i <= 199; i++) {
            pool.step(1);
        }
        due("work", pool.join(1, 7), 20001);
        due("doneIn(1), 20001", pool.doneIn(1), JoinGrants.NONE);
        pool.step(1);
        due("doneIn(1), 20000", pool.doneIn(1), 20000);
        pool.step(1);
        due("doneIn(1), 19999", pool.doneIn(1), 19999);
        pool.undo();
        pool.set(3, 2);
        due("doneIn(1), two in a step", pool.doneIn(1), 10000);
        pool.set(3, 50);
        due("doneIn(1), fifty in a step", pool.doneIn(1), 400);
    }

    private static void doneInOfOneThatWaits() {
        CHECKS.of("\"NONE if it takes more than 20000\", one that waits");
        int[][] rows = {{126, 150, 162, 163, 19026, 975}, {134, 141, 162, 162, 19028, 972}};
        for (int i = 0; i < rows.length; i++) {
            JoinGrants pool = new JoinGrants();
            pool.set(0, 20);
            pool.set(3, 1);
            pool.ask(0, 1, 15);
            pool.ask(0, rows[i][0], rows[i][1]);
            pool.ask(2, rows[i][2], rows[i][3]);
            due("need", pool.join(2, 4), 20);
            due("doneIn(1)", pool.doneIn(1), rows[i][4]);
            due("work behind it", pool.work(2, rows[i][2], rows[i][3], 20), rows[i][5]);
            due("doneIn(2)", pool.doneIn(2), i == 0 ? JoinGrants.NONE : 20000);
            pool.step(1);
            due("doneIn(2), a step later", pool.doneIn(2), i == 0 ? 20000 : 19999);
        }
    }

    private static void doneInNever() {
        CHECKS.of("\"(also if it never starts)\"");
        JoinGrants pool = new JoinGrants();
        pool.set(0, 21);
        pool.ask(2, 200, 200);
        pool.ask(0, 1, 1);
        due("doneIn(0)", pool.doneIn(0), JoinGrants.NONE);
        due("doneIn(1), behind it", pool.doneIn(1), JoinGrants.NONE);
        pool.set(1, 1);
        due("doneIn(1), ahead of it", pool.doneIn(1), 1);
        due("doneIn(0)", pool.doneIn(0), JoinGrants.NONE);
        pool.set(0, 22);
        due("doneIn(0), a pool of what it needs", pool.doneIn(0), 1 + 120);
        CHECKS.of("\"if nothing else comes\"");
        due("step(120)", pool.step(120), 1);
        due("doneIn(0)", pool.doneIn(0), 1);
        due("step(1)", pool.step(1), 1);
        due("doneIn(0), done", pool.doneIn(0), 0);
    }

    private static void doneInIsTried() {
        CHECKS.of("\"Tells in how many steps a join will be done\", and changes nothing");
        Twins twins = new Twins(CHECKS, pool -> {
            pool.set(2, 1);
            pool.ask(0, 9, 98);
            pool.ask(1, 9, 9);
            pool.ask(2, 200, 200);
            pool.ask(1, 30, 200);
            pool.set(2, 0);
            pool.ask(2, 200, 200);
        });
        twins.untouched("doneIn(0)", 15, pool -> pool.doneIn(0));
        twins.untouched("doneIn(1)", 6, pool -> pool.doneIn(1));
        twins.untouched("doneIn(2)", 120, pool -> pool.doneIn(2));
        twins.untouched("doneIn(4), it waits at first", 15 + 120, pool -> pool.doneIn(4));
    }

    private static void doneInChecksInOrder() {
        CHECKS.of("\"Returns how many, 0 if it is done; UNKNOWN; NOT_POSSIBLE if it was cancelled; NONE\"");
        JoinGrants pool = ofAllStates();
        for (int join : NO_JOINS) {
            due("doneIn(" + join + ")", pool.doneIn(join), JoinGrants.UNKNOWN);
        }
        due("doneIn(0), it waits for ever", pool.doneIn(0), JoinGrants.NONE);
        due("doneIn(1), at work", pool.doneIn(1), 40);
        due("doneIn(2), done", pool.doneIn(2), 0);
        due("doneIn(3), cancelled", pool.doneIn(3), JoinGrants.NOT_POSSIBLE);
        due("cancel(0)", pool.cancel(0), 0);
        due("doneIn(0), cancelled while it waited", pool.doneIn(0), JoinGrants.NOT_POSSIBLE);
    }

    private static void countOfWhat() {
        CHECKS.of("\"Returns the number; BAD_VALUE.\"");
        JoinGrants pool = ofAllStates();
        for (int what : new int[] {-1, 18, MIN, MAX}) {
            due("count(" + what + ")", pool.count(what), JoinGrants.BAD_VALUE);
        }
        pool.type('l');
        CHECKS.dueCounts(pool, 0, 4, 1, 1, 1, 1, 5, 15, 11, 1, 12, 0, 0, 20, 1, 0, 10, 4, 1);
    }

    private static void countOfFreePages() {
        CHECKS.of("\"5 for pages granted, 6 for free pages\"");
        JoinGrants pool = new JoinGrants();
        pool.set(0, 500);
        CHECKS.dueCounts(pool, 5, 0, 500);
        pool.ask(0, 1, 20);
        int[][] rows = {{23, 1}, {22, 0}, {21, 0}, {20, 0}};
        for (int[] row : rows) {
            pool.set(0, row[0]);
            CHECKS.dueCounts(pool, 5, 22, row[1]);
        }
    }

    private static void countOfTheMostGranted() {
        CHECKS.of("\"7 for the most pages that were granted at a time so far\"");
        JoinGrants pool = new JoinGrants();
        due("count(7), none", pool.count(7), 0);
        pool.ask(0, 1, 1);
        due("count(7)", pool.count(7), 3);
        pool.ask(0, 1, 2);
        due("count(7)", pool.count(7), 7);
        pool.cancel(0);
        due("count(7), less are granted now", pool.count(7), 7);
        pool.ask(0, 1, 1);
        due("count(7), as many again", pool.count(7), 7);
        pool.ask(0, 1, 1);
        due("count(7), more", pool.count(7), 10);
        pool.step(10);
        due("count(7), none are granted now", pool.count(7), 10);
        pool.set(0, 20);
        pool.set(2, 1);
        pool.ask(0, 1, 18);
        due("count(7), all of a pool", pool.count(7), 20);
        pool.ask(0, 1, 18);
        due("count(7), asked back", pool.count(7), 20);
    }

    private static void spareOfThoseAtWork() {
        CHECKS.of("\"Tells the sum of pages that joins at work have more than they need.\"");
        JoinGrants pool = new JoinGrants();
        due("spare(), none", pool.spare(), 0);
        pool.set(0, 20);
        pool.ask(2, 200, 160);
        due("spare(), 20 needed of 20", pool.spare(), 0);
        pool.set(0, 21);
        due("spare(), it got no more", pool.spare(), 0);
        pool.cancel(0);
        due("spare(), cancelled", pool.spare(), 0);
        pool.ask(2, 200, 160);
        due("spare(), 20 needed of 21", pool.spare(), 1);
        pool.ask(2, 200, 160);
        due("spare(), one that waits has none", pool.spare(), 1);
        pool.cancel(2);
        pool.step(1000);
        due("spare(), done", pool.spare(), 0);
    }
}
