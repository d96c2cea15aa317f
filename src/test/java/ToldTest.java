/** Promises 13 to 20: what is told of joins, of the queue, of plans and of the whole. */
public final class ToldTest {
    private static final Checks CHECKS = new Checks();

    public static void main(String[] args) {
        joinTells();
        joinIsChecked();
        whyTells();
        queueTells();
        workTells();
        workIsChecked();
        bestWayTells();
        doneInTells();
        doneInTellsUpTo20000();
        countTells();
        countIsChecked();
        spareTells();
        CHECKS.end("ToldTest");
    }

    private static void due(String call, long got, long want) {
        CHECKS.due(call, got, want);
    }

    private static void joinTells() {
        CHECKS.of("promise 13");
        int[][] needsAndWants = {{0, 1, 1, 3, 3}, {0, 200, 200, 3, 202}, {1, 200, 1, 3, 3},
            {1, 1, 4, 4, 6}, {1, 1, 5, 4, 8}, {1, 1, 8, 4, 11}, {1, 1, 9, 5, 12}, {1, 1, 200, 16, 242},
            {2, 1, 1, 3, 4}, {2, 1, 2, 3, 4}, {2, 2, 2, 4, 5}, {2, 4, 5, 5, 7}, {2, 200, 199, 21, 202},
            {2, 200, 200, 22, 203}};
        for (int[] one : needsAndWants) {
            JoinGrants pool = new JoinGrants();
            pool.set(0, 300);
            pool.ask(one[0], one[1], one[2]);
            CHECKS.dueOfJoin(pool, 0, one[0], one[1], one[2], 1, one[3], one[4], one[4]);
        }
        JoinGrants pool = new JoinGrants();
        pool.set(2, 1);
        pool.ask(1, 60, 80);
        CHECKS.dueOfJoin(pool, 0, 1, 60, 80, 1, 10, 98, 98, 140, 0, 0, 0, 0);
        pool.step(4);
        pool.ask(0, 6, 1);
        CHECKS.dueOfJoin(pool, 0, 1, 60, 80, 1, 10, 98, 97, 301, 0, 4, 1, 1);
        CHECKS.dueOfJoin(pool, 1, 0, 6, 1, 1, 3, 3, 3, 12, 0, 0, 0, 0);
        pool.step(2);
        CHECKS.dueOfJoin(pool, 0, 1, 60, 80, 1, 10, 98, 97, 281, 0, 6, 1, 1);
        CHECKS.dueOfJoin(pool, 1, 0, 6, 1, 2, 3, 3, 0, 0, 0, 2, 0, 0);
        pool.step(29);
        CHECKS.dueOfJoin(pool, 0, 1, 60, 80, 2, 10, 98, 0, 0, 0, 35, 1, 0);
    }

    private static void joinIsChecked() {
        JoinGrants pool = new JoinGrants();
        due("join(0, 0)", pool.join(0, 0), JoinGrants.UNKNOWN);
        due("join(0, 12)", pool.join(0, 12), JoinGrants.UNKNOWN);
        pool.ask(0, 1, 1);
        int[] wrongJoins = {-1, 1, 16, 17, Integer.MAX_VALUE, Integer.MIN_VALUE};
        for (int join : wrongJoins) {
            due("join(" + join + ", 0)", pool.join(join, 0), JoinGrants.UNKNOWN);
            due("why(" + join + ")", pool.why(join), JoinGrants.UNKNOWN);
            due("doneIn(" + join + ")", pool.doneIn(join), JoinGrants.UNKNOWN);
            due("cancel(" + join + ")", pool.cancel(join), JoinGrants.UNKNOWN);
            due("change(" + join + ", 1)", pool.change(join, 1), JoinGrants.UNKNOWN);
        }
        int[] wrongThings = {-1, 12, Integer.MAX_VALUE, Integer.MIN_VALUE};
        for (int what : wrongThings) {
            due("join(0, " + what + ")", pool.join(0, what), JoinGrants.BAD_VALUE);
            due("join(1, " + what + ")", pool.join(1, what), JoinGrants.UNKNOWN);
        }
    }

    private static void whyTells() {
        CHECKS.of("promise 14");
        JoinGrants pool = new JoinGrants();
        pool.set(0, 20);
        pool.ask(0, 30, 18);
        pool.ask(0, 1, 1);
        pool.ask(2, 200, 200);
        pool.ask(2, 200, 124);
        pool.ask(0, 1, 1);
        int[] whys = {0, 3, 1, 2, 2};
        for (int join = 0; join < whys.length; join++) {
            due("why(" + join + ")", pool.why(join), whys[join]);
        }
        due("need of 3, all of the pool", pool.join(3, 4), 20);
        pool.set(0, 21);
        due("why(2), 22 needed of 21", pool.why(2), 1);
        pool.set(0, 22);
        due("why(2), 22 needed of 22", pool.why(2), 2);
        pool.set(1, 1);
        due("why(4)", pool.why(4), 2);
        pool.cancel(1);
        due("why(1), cancelled", pool.why(1), 0);
        due("why(4), now the first", pool.why(4), 3);
        due("why(3)", pool.why(3), 2);
        pool.step(1000);
        due("why(0), done", pool.why(0), 0);
        pool = new JoinGrants();
        pool.set(0, 20);
        pool.ask(2, 200, 200);
        pool.ask(0, 1, 1);
        due("why(0), none is at work", pool.why(0), 1);
        due("why(1)", pool.why(1), 2);
    }

    private static void queueTells() {
        CHECKS.of("promise 15");
        JoinGrants pool = new JoinGrants();
        due("queue(0)", pool.queue(0), JoinGrants.NONE);
        due("queue(-1)", pool.queue(-1), JoinGrants.BAD_VALUE);
        due("queue(MIN)", pool.queue(Integer.MIN_VALUE), JoinGrants.BAD_VALUE);
        due("queue(MAX)", pool.queue(Integer.MAX_VALUE), JoinGrants.NONE);
        pool.ask(0, 9, 98);
        pool.ask(2, 200, 200);
        pool.ask(1, 1, 1);
        pool.ask(0, 1, 1);
        due("queue(0)", pool.queue(0), 1);
        due("queue(2)", pool.queue(2), 3);
        due("queue(3)", pool.queue(3), JoinGrants.NONE);
        pool.set(1, 1);
        due("queue(0)", pool.queue(0), 2);
        due("queue(1)", pool.queue(1), 3);
        due("queue(2)", pool.queue(2), 1);
        due("queue(3)", pool.queue(3), JoinGrants.NONE);
        pool.change(1, 0);
        due("queue(0), all need 3", pool.queue(0), 1);
        pool.cancel(1);
        due("queue(0)", pool.queue(0), 2);
        due("queue(2)", pool.queue(2), JoinGrants.NONE);
        due("queue(-1)", pool.queue(-1), JoinGrants.BAD_VALUE);
    }

    private static void workTells() {
        CHECKS.of("promise 16");
        int[][] works = {{0, 1, 1, 3, 2}, {0, 200, 200, 3, 40200}, {0, 200, 200, 500, 400},
            {0, 10, 7, 11, 24}, {0, 10, 7, 12, 17}, {1, 200, 1, 3, 201}, {1, 30, 25, 6, JoinGrants.NONE},
            {1, 30, 25, 7, 165}, {1, 30, 25, 31, 165}, {1, 30, 25, 32, 55}, {1, 30, 25, 500, 55},
            {2, 1, 1, 3, 2}, {2, 1, 2, 3, 3}, {2, 2, 2, 3, JoinGrants.NONE}, {2, 2, 2, 4, 4},
            {2, 2, 3, 4, 15}, {2, 100, 100, 15, JoinGrants.NONE}, {2, 100, 100, 16, 600},
            {2, 100, 100, 199, 600}, {2, 100, 100, 200, 200}, {2, 200, 200, 21, JoinGrants.NONE},
            {2, 200, 200, 22, 1200}, {2, 200, 200, 399, 1200}, {2, 200, 200, 400, 400},
            {2, 200, 200, 500, 400}};
        JoinGrants pool = new JoinGrants();
        for (int[] one : works) {
            due("work(" + one[0] + ", " + one[1] + ", " + one[2] + ", " + one[3] + ")",
                    pool.work(one[0], one[1], one[2], one[3]), one[4]);
        }
        due("count(16)", pool.count(16), 0);
        due("count(0)", pool.count(0), 0);
    }

    private static void workIsChecked() {
        JoinGrants pool = new JoinGrants();
        int[][] wrong = {{-1, 1, 1, 3}, {3, 1, 1, 3}, {0, 0, 1, 3}, {0, 201, 1, 3}, {0, 1, 0, 3},
            {0, 1, 201, 3}, {0, 1, 1, 2}, {0, 1, 1, 501}, {1, 1, 200, 2}, {0, 1, 1, Integer.MIN_VALUE},
            {0, 1, 1, Integer.MAX_VALUE}, {2, Integer.MAX_VALUE, Integer.MAX_VALUE, 3}};
        for (int[] one : wrong) {
            due("work with a bad value", pool.work(one[0], one[1], one[2], one[3]), JoinGrants.BAD_VALUE);
        }
    }

    private static void bestWayTells() {
        CHECKS.of("promise 17");
        int[][] ways = {{1, 1, 3, 0}, {200, 1, 3, 1}, {50, 60, 8, 0}, {50, 60, 9, 1}, {50, 60, 14, 1},
            {50, 60, 15, 0}, {50, 60, 80, 0}, {200, 200, 500, 0}, {200, 200, 3, 0}, {4, 4, 4, 0},
            {20, 4, 4, 0}, {20, 4, 5, 0}, {20, 4, 6, 1}, {20, 4, 21, 1}, {20, 4, 22, 0}, {2, 1, 3, 1}};
        JoinGrants pool = new JoinGrants();
        for (int[] one : ways) {
            due("bestWay(" + one[0] + ", " + one[1] + ", " + one[2] + ")",
                    pool.bestWay(one[0], one[1], one[2]), one[3]);
        }
        int[][] wrong = {{0, 1, 3}, {201, 1, 3}, {1, 0, 3}, {1, 201, 3}, {1, 1, 2}, {1, 1, 501},
            {Integer.MIN_VALUE, 1, 3}, {1, Integer.MAX_VALUE, 3}, {1, 1, Integer.MIN_VALUE}};
        for (int[] one : wrong) {
            due("bestWay with a bad value", pool.bestWay(one[0], one[1], one[2]), JoinGrants.BAD_VALUE);
        }
        due("count(16)", pool.count(16), 0);
    }

    private static void doneInTells() {
        CHECKS.of("promise 18");
        JoinGrants pool = new JoinGrants();
        pool.set(0, 20);
        for (int i = 0; i < 4; i++) {
            pool.ask(0, 1, 18);
        }
        pool.ask(2, 200, 200);
        int[] dues = {2, 4, 6, 8, JoinGrants.NONE};
        for (int join = 0; join < dues.length; join++) {
            due("doneIn(" + join + ")", pool.doneIn(join), dues[join]);
        }
        due("nothing has passed", pool.count(8), 0);
        due("join(0, 7)", pool.join(0, 7), 19);
        due("count(16)", pool.count(16), 4);
        pool.step(3);
        due("doneIn(0), done", pool.doneIn(0), 0);
        due("doneIn(1)", pool.doneIn(1), 1);
        due("doneIn(3)", pool.doneIn(3), 5);
        pool.cancel(1);
        due("doneIn(1), cancelled", pool.doneIn(1), JoinGrants.NOT_POSSIBLE);
        due("doneIn(3)", pool.doneIn(3), 4);
        pool.set(3, 50);
        due("doneIn(3)", pool.doneIn(3), 2);
        pool.cancel(4);
        due("doneIn(4), cancelled", pool.doneIn(4), JoinGrants.NOT_POSSIBLE);
        pool = new JoinGrants();
        pool.set(0, 40);
        pool.set(2, 1);
        pool.ask(0, 9, 18);
        pool.ask(0, 30, 18);
        pool.ask(2, 200, 200);
        due("doneIn(0), it gave back", pool.doneIn(0), 19);
        pool.ask(2, 200, 199);
        due("join(3, 3)", pool.join(3, 3), 0);
        due("doneIn(2)", pool.doneIn(2), 120);
        due("doneIn(3), started later", pool.doneIn(3), 240);
        due("step(239)", pool.step(239), 3);
        due("step(1)", pool.step(1), 1);
        due("join(3, 3)", pool.join(3, 3), 2);
    }

    private static void doneInTellsUpTo20000() {
        JoinGrants pool = new JoinGrants();
        pool.set(0, 20);
        pool.set(3, 1);
        pool.ask(0, 1, 15);
        pool.ask(0, 177, 112);
        CHECKS.dueOfJoin(pool, 1, 0, 177, 112, 1, 3, 114, 3, 20001, 0, 0, 0, 0);
        due("doneIn(1), 20001 steps", pool.doneIn(1), JoinGrants.NONE);
        due("step(1)", pool.step(1), 0);
        due("doneIn(1), 20000 steps", pool.doneIn(1), 20000);
        due("step(1)", pool.step(1), 0);
        due("doneIn(1), 19999 steps", pool.doneIn(1), 19999);
    }

    private static void countTells() {
        CHECKS.of("promise 19");
        JoinGrants pool = new JoinGrants();
        pool.set(2, 1);
        pool.ask(2, 30, 42);
        pool.ask(1, 20, 60);
        CHECKS.dueCounts(pool, 0, 2, 0, 2, 0, 0, 100, 0, 100, 0, 0, 0, 1, 100, 0, 1, 10, 3, 0);
        pool.ask(0, 2, 7);
        due("join(1, 7), as much as before and 3", pool.join(1, 7), 243);
        pool.step(3);
        CHECKS.dueCounts(pool, 0, 3, 0, 2, 1, 0, 97, 3, 100, 3, 76, 3, 1, 100, 0, 1, 10, 4, 0);
        pool.set(0, 30);
        pool.ask(2, 200, 200);
        pool.ask(0, 1, 1);
        pool.cancel(1);
        pool.type('m');
        CHECKS.dueCounts(pool, 0, 5, 2, 1, 1, 1, 39, 0, 100, 3, 76, 3, 0, 30, 0, 1, 10, 4, 1);
        pool.cancel(0);
        CHECKS.dueCounts(pool, 0, 5, 0, 2, 1, 2, 30, 0, 100, 3, 76, 3 + 3, 1, 30, 0, 1, 10, 4, 1);
        pool.step(1000);
        CHECKS.dueCounts(pool, 1, 0, 0, 3, 2, 0, 30, 100, 1003, 1281);
    }

    private static void countIsChecked() {
        JoinGrants pool = new JoinGrants();
        for (int what : new int[] {-1, 18, Integer.MAX_VALUE, Integer.MIN_VALUE}) {
            due("count(" + what + ")", pool.count(what), JoinGrants.BAD_VALUE);
        }
    }

    private static void spareTells() {
        CHECKS.of("promise 20");
        JoinGrants pool = new JoinGrants();
        due("spare()", pool.spare(), 0);
        pool.ask(0, 1, 1);
        due("spare()", pool.spare(), 0);
        pool.ask(0, 5, 38);
        due("spare(), 40 less 3", pool.spare(), 37);
        pool.ask(1, 9, 100);
        due("spare(), and 57 less 12", pool.spare(), 82);
        pool.ask(1, 9, 100);
        due("spare(), one waits", pool.spare(), 82);
        pool.set(0, 20);
        due("spare() does not know of the pool", pool.spare(), 82);
        pool.cancel(1);
        due("spare()", pool.spare(), 45);
        pool.step(40);
        due("spare(), the next has 20 less 12", pool.spare(), 8);
        pool.step(1000);
        due("spare(), none is at work", pool.spare(), 0);
    }
}
