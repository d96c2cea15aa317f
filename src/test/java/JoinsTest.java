/** Promises 1 to 7: a new object, and the acts on joins and settings. */
public final class JoinsTest {
    private static final Checks CHECKS = new Checks();

    public static void main(String[] args) {
        newObject();
        newObjectsAreApart();
        askGrants();
        askIsChecked();
        askAsksBack();
        askAsksBackFromSeveral();
        askBackMakesAFullPoolOfLeast();
        askBackRoundsUp();
        askAllTakesTheText();
        askAllIsAllOrNone();
        cancelEnds();
        changeOfWay();
        stepPasses();
        stepStartsOnceAStep();
        stepSpeeds();
        setSettings();
        setStartsAll();
        setOrder();
        setSmallerPool();
        CHECKS.end("JoinsTest");
    }

    private static void due(String call, long got, long want) {
        CHECKS.due(call, got, want);
    }

    private static void newObject() {
        CHECKS.of("promise 1");
        JoinGrants pool = new JoinGrants();
        CHECKS.dueCounts(pool, 0, 0, 0, 0, 0, 0, 0, 100, 0, 0, 0, 0, 0, 100, 0, 0, 10, 0, 0);
        due("spare()", pool.spare(), 0);
        due("queue(0)", pool.queue(0), JoinGrants.NONE);
        due("join(0, 0)", pool.join(0, 0), JoinGrants.UNKNOWN);
        due("undo()", pool.undo(), JoinGrants.NONE);
        due("restore()", pool.restore(), JoinGrants.NONE);
        due("clearText()", pool.clearText(), 0);
    }

    private static void newObjectsAreApart() {
        JoinGrants first = new JoinGrants();
        first.ask(0, 5, 5);
        first.set(0, 50);
        first.type('l');
        JoinGrants second = new JoinGrants();
        CHECKS.dueCounts(second, 0, 0, 0, 0, 0, 0, 0, 100, 0, 0, 0, 0, 0, 100, 0, 0, 10, 0, 0);
        due("the first has its join", first.count(0), 1);
    }

    private static void askGrants() {
        CHECKS.of("promise 2");
        JoinGrants pool = new JoinGrants();
        due("ask(0, 10, 10)", pool.ask(0, 10, 10), 0);
        CHECKS.dueOfJoin(pool, 0, 0, 10, 10, 1, 3, 12, 12, 20, 0, 0, 0, 0);
        due("ask(2, 100, 90)", pool.ask(2, 100, 90), 1);
        CHECKS.dueOfJoin(pool, 1, 2, 100, 90, 1, 15, 98, 88, 570, 0, 0, 0, 1);
        due("ask(1, 7, 50)", pool.ask(1, 7, 50), 2);
        CHECKS.dueOfJoin(pool, 2, 1, 7, 50, 0, 9, 62, 0, 0, 0, 0, 0, 0);
        due("ask(0, 1, 1)", pool.ask(0, 1, 1), 3);
        due("why(3), behind one that waits", pool.why(3), 2);
        due("count(16)", pool.count(16), 4);
        pool = new JoinGrants();
        pool.ask(0, 1, 95);
        due("97 granted", pool.count(5), 97);
        due("ask(0, 1, 1)", pool.ask(0, 1, 1), 1);
        CHECKS.dueOfJoin(pool, 1, 0, 1, 1, 1, 3, 3, 3, 2, 0, 0, 0, 0);
        pool.ask(0, 1, 1);
        due("join(2, 3) in a full pool", pool.join(2, 3), 0);
        pool = new JoinGrants();
        pool.ask(0, 1, 96);
        pool.ask(0, 1, 1);
        due("join(1, 3) with 2 free", pool.join(1, 3), 0);
    }

    private static void askIsChecked() {
        JoinGrants pool = new JoinGrants();
        int[][] wrong = {{-1, 1, 1}, {3, 1, 1}, {0, 0, 1}, {0, 201, 1}, {0, 1, 0}, {0, 1, 201},
            {Integer.MIN_VALUE, 1, 1}, {0, Integer.MAX_VALUE, 1}, {0, 1, Integer.MIN_VALUE}};
        for (int[] one : wrong) {
            due("ask with a bad value", pool.ask(one[0], one[1], one[2]), JoinGrants.BAD_VALUE);
        }
        due("count(0)", pool.count(0), 0);
        due("count(16)", pool.count(16), 0);
        due("ask(2, 200, 200)", pool.ask(2, 200, 200), 0);
        for (int i = 1; i < 16; i++) {
            due("ask(0, 1, 1)", pool.ask(0, 1, 1), i);
        }
        due("undo()", pool.undo(), 3);
        due("ask(0, 1, 1) once more", pool.ask(0, 1, 1), 15);
        due("ask(0, 1, 1) behind 16", pool.ask(0, 1, 1), JoinGrants.FULL);
        due("ask(3, 1, 1) behind 16", pool.ask(3, 1, 1), JoinGrants.BAD_VALUE);
        due("cancel(3)", pool.cancel(3), 0);
        due("ask(0, 1, 1) behind 16 ever", pool.ask(0, 1, 1), JoinGrants.FULL);
        due("count(0)", pool.count(0), 16);
    }

    private static void askAsksBack() {
        CHECKS.of("promise 2, asked back");
        JoinGrants pool = new JoinGrants();
        pool.set(2, 1);
        pool.ask(0, 40, 58);
        pool.ask(0, 40, 28);
        due("free", pool.count(6), 10);
        pool.ask(1, 10, 100);
        CHECKS.dueOfJoin(pool, 2, 1, 10, 100, 1, 12, 122, 12, 330, 0, 0, 0, 1);
        CHECKS.dueOfJoin(pool, 0, 0, 40, 58, 1, 3, 60, 58, 100, 0, 0, 2, 0);
        due("join(1, 10)", pool.join(1, 10), 0);
        pool.ask(2, 200, 200);
        CHECKS.dueOfJoin(pool, 3, 2, 200, 200, 1, 22, 203, 22, 1200, 0, 0, 0, 1);
        CHECKS.dueOfJoin(pool, 0, 0, 40, 58, 1, 3, 60, 36, 182, 0, 0, 24, 0);
        CHECKS.dueCounts(pool, 5, 100, 0, 100, 0, 0, 24, 2);
        due("spare()", pool.spare(), 60);
    }

    private static void askAsksBackFromSeveral() {
        JoinGrants pool = new JoinGrants();
        pool.set(2, 1);
        pool.set(0, 20);
        pool.ask(0, 5, 8);
        pool.ask(0, 5, 8);
        pool.ask(2, 100, 100);
        due("join(2, 3), 16 needed of 14", pool.join(2, 3), 0);
        due("nothing is asked back for it", pool.count(10), 0);
        pool.ask(1, 5, 100);
        due("why(3)", pool.why(3), 2);
        due("cancel(2)", pool.cancel(2), 0);
        CHECKS.dueOfJoin(pool, 0, 0, 5, 8, 1, 3, 10, 3, 52, 0, 0, 7, 0);
        CHECKS.dueOfJoin(pool, 1, 0, 5, 8, 1, 3, 10, 5, 26, 0, 0, 5, 0);
        due("join(3, 6)", pool.join(3, 6), 12);
        due("count(10)", pool.count(10), 12);
        pool = new JoinGrants();
        pool.set(2, 1);
        pool.ask(0, 5, 48);
        pool.ask(0, 5, 48);
        pool.ask(0, 5, 5);
        due("the lowest of equals gives", pool.join(0, 10), 3);
        pool.ask(0, 5, 5);
        due("then the other has more", pool.join(1, 10), 3);
        due("join(0, 10)", pool.join(0, 10), 3);
    }

    private static void askBackMakesAFullPoolOfLeast() {
        JoinGrants pool = new JoinGrants();
        pool.set(2, 1);
        pool.set(0, 20);
        pool.ask(2, 50, 50);
        pool.ask(0, 9, 9);
        CHECKS.dueOfJoin(pool, 0, 2, 50, 50, 1, 12, 53, 17, 303, 0, 0, 3, 1);
        pool.ask(1, 9, 9);
        due("5 needed, 5 spare", pool.join(1, 6) + pool.join(0, 6) + pool.join(2, 6), 20);
        due("join(0, 6)", pool.join(0, 6), 12);
        due("spare()", pool.spare(), 0);
        pool.ask(0, 1, 1);
        due("why(3)", pool.why(3), 3);
    }

    private static void askBackRoundsUp() {
        JoinGrants pool = new JoinGrants();
        pool.set(0, 20);
        pool.set(2, 1);
        pool.set(3, 1);
        pool.ask(0, 6, 5);
        pool.ask(2, 50, 50);
        pool.step(3);
        due("join(0, 7)", pool.join(0, 7), 13);
        pool.ask(0, 1, 1);
        // 13 * 21 / 16 is 17 and a sixteenth
        CHECKS.dueOfJoin(pool, 0, 0, 6, 5, 1, 3, 7, 4, 18 + 3, 0, 3, 3, 0);
        due("join(1, 10)", pool.join(1, 10), 0);
    }

    private static void typeAll(JoinGrants pool, String text) {
        pool.clearText();
        for (char character : text.toCharArray()) {
            pool.type(character);
        }
    }

    private static void askAllTakesTheText() {
        CHECKS.of("promise 3");
        JoinGrants pool = new JoinGrants();
        typeAll(pool, "l10x10,m100x90,b7x50");
        due("askAll()", pool.askAll(), 3);
        CHECKS.dueOfJoin(pool, 0, 0, 10, 10, 1, 3, 12, 12, 20, 0, 0, 0, 0);
        CHECKS.dueOfJoin(pool, 1, 2, 100, 90, 1, 15, 98, 88, 570, 0, 0, 0, 1);
        CHECKS.dueOfJoin(pool, 2, 1, 7, 50, 0, 9, 62, 0, 0, 0, 0, 0, 0);
        due("the text stays", pool.count(17), 20);
        due("one act", pool.count(16), 1);
        due("undo()", pool.undo(), 0);
        due("count(0)", pool.count(0), 0);
        pool.set(1, 1);
        typeAll(pool, "b1x200,l1x100,l1x1");
        pool.set(0, 20);
        due("askAll()", pool.askAll(), 3);
        due("the first got all before the others came", pool.join(0, 6), 20);
        due("queue(0)", pool.queue(0), 1);
    }

    private static void askAllIsAllOrNone() {
        JoinGrants pool = new JoinGrants();
        due("askAll(), no text", pool.askAll(), -100);
        due("count(16)", pool.count(16), 0);
        typeAll(pool, "l1x1,l1x1,l1x1,l1x1,l1x1,l1x1,l1x1,l1x1,l1x1,l1x1,l1x1,l1x1");
        due("askAll()", pool.askAll(), 12);
        due("askAll() again", pool.askAll(), JoinGrants.FULL);
        due("count(0)", pool.count(0), 12);
        due("count(16)", pool.count(16), 1);
        typeAll(pool, "l1x1,l1x1,l1x1,l1x1,l1x1");
        due("askAll(), 5 behind 12", pool.askAll(), JoinGrants.FULL);
        typeAll(pool, "l1x1,l1x1,l1x1,l1x1,x");
        due("askAll(), a fault comes first", pool.askAll(), -120);
        typeAll(pool, "l1x1,l1x1,l1x1,l1x1");
        due("askAll(), 4 behind 12", pool.askAll(), 4);
        due("askAll(), 4 behind 16", pool.askAll(), JoinGrants.FULL);
        due("count(0)", pool.count(0), 16);
    }

    private static void cancelEnds() {
        CHECKS.of("promise 4");
        JoinGrants pool = new JoinGrants();
        due("cancel(0)", pool.cancel(0), JoinGrants.UNKNOWN);
        due("cancel(-1)", pool.cancel(-1), JoinGrants.UNKNOWN);
        pool.ask(0, 50, 60);
        pool.ask(0, 50, 60);
        pool.ask(1, 50, 60);
        pool.ask(0, 2, 2);
        pool.step(3);
        due("cancel(2), it waits", pool.cancel(2), 0);
        CHECKS.dueOfJoin(pool, 2, 1, 50, 60, 3, 9, 74, 0, 0, 3, 0, 0, 0);
        due("cancel(2) again", pool.cancel(2), JoinGrants.NOT_POSSIBLE);
        due("join(3, 3), nothing is free", pool.join(3, 3), 0);
        due("cancel(0), it has 62", pool.cancel(0), 62);
        CHECKS.dueOfJoin(pool, 0, 0, 50, 60, 3, 3, 62, 0, 0, 0, 3, 0, 0);
        due("the queue was gone through", pool.join(3, 6), 4);
        due("cancel(4)", pool.cancel(4), JoinGrants.UNKNOWN);
        due("cancel(16)", pool.cancel(16), JoinGrants.UNKNOWN);
        pool.step(1);
        due("join(3, 3)", pool.join(3, 3), 2);
        due("cancel(3), it is done", pool.cancel(3), JoinGrants.NOT_POSSIBLE);
        due("count(4)", pool.count(4), 2);
        pool.undo();
        pool.undo();
        due("cancel(0) is an act", pool.join(0, 3), 1);
        pool = new JoinGrants();
        pool.ask(0, 1, 98);
        pool.ask(2, 200, 200);
        pool.ask(0, 1, 1);
        pool.set(0, 102 - 1);
        due("why(2)", pool.why(2), 2);
        pool.set(0, 103);
        due("why(1)", pool.why(1), 3);
        due("cancel(1)", pool.cancel(1), 0);
        due("the one behind starts", pool.join(2, 6), 3);
    }

    private static void changeOfWay() {
        CHECKS.of("promise 5");
        JoinGrants pool = new JoinGrants();
        due("change(0, 0)", pool.change(0, 0), JoinGrants.UNKNOWN);
        due("change(0, 9)", pool.change(0, 9), JoinGrants.UNKNOWN);
        pool.ask(0, 1, 94);
        pool.ask(2, 20, 40);
        pool.ask(0, 1, 1);
        due("change(1, -1)", pool.change(1, -1), JoinGrants.BAD_VALUE);
        due("change(1, 3)", pool.change(1, 3), JoinGrants.BAD_VALUE);
        due("change(0, 3)", pool.change(0, 3), JoinGrants.BAD_VALUE);
        due("change(0, 1)", pool.change(0, 1), JoinGrants.NOT_POSSIBLE);
        due("change(0, 0)", pool.change(0, 0), JoinGrants.NOT_POSSIBLE);
        due("change(1, 2)", pool.change(1, 2), JoinGrants.NONE);
        due("count(16)", pool.count(16), 3);
        due("change(1, 1)", pool.change(1, 1), 2);
        CHECKS.dueOfJoin(pool, 1, 1, 20, 40, 0, 8, 50, 0, 0, 0, 0, 0, 0);
        due("change(1, 0)", pool.change(1, 0), 1);
        CHECKS.dueOfJoin(pool, 1, 0, 20, 40, 1, 3, 42, 4, 420, 0, 0, 0, 0);
        due("join(2, 3)", pool.join(2, 3), 0);
        due("count(16)", pool.count(16), 4);
        due("undo()", pool.undo(), 3);
        CHECKS.dueOfJoin(pool, 1, 1, 20, 40, 0, 8, 50, 0, 0, 0, 0, 0, 0);
        pool.cancel(1);
        due("change(1, 0), cancelled", pool.change(1, 0), JoinGrants.NOT_POSSIBLE);
    }

    private static void stepPasses() {
        CHECKS.of("promise 6");
        JoinGrants pool = new JoinGrants();
        for (int wrong : new int[] {0, -1, 1001, Integer.MAX_VALUE, Integer.MIN_VALUE}) {
            due("step(" + wrong + ")", pool.step(wrong), JoinGrants.BAD_VALUE);
        }
        due("count(16)", pool.count(16), 0);
        due("step(1)", pool.step(1), 0);
        due("step(1000)", pool.step(1000), 0);
        due("count(8)", pool.count(8), 1001);
        due("count(16)", pool.count(16), 2);
        pool.ask(0, 10, 15);
        pool.ask(0, 5, 5);
        pool.ask(1, 5, 95);
        CHECKS.dueOfJoin(pool, 2, 1, 5, 95, 1, 11, 116, 76, 300, 0, 0, 0, 1);
        due("step(1)", pool.step(1), 1);
        CHECKS.dueOfJoin(pool, 0, 0, 10, 15, 1, 3, 17, 17, 15, 0, 1, 0, 0);
        CHECKS.dueOfJoin(pool, 1, 0, 5, 5, 2, 3, 7, 0, 0, 0, 1, 0, 0);
        due("step(1)", pool.step(1), 0);
        due("step(1)", pool.step(1), 1);
        CHECKS.dueOfJoin(pool, 0, 0, 10, 15, 2, 3, 17, 0, 0, 0, 3, 0, 0);
        due("count(9), 25 and 10 and 30", pool.count(9), 65);
        due("step(27)", pool.step(27), 1);
        due("count(9)", pool.count(9), 335);
        due("undo()", pool.undo(), 3);
        due("join(2, 7)", pool.join(2, 7), 270);
    }

    private static void stepStartsOnceAStep() {
        JoinGrants pool = new JoinGrants();
        pool.set(0, 20);
        for (int i = 0; i < 4; i++) {
            pool.ask(0, 1, 18);
        }
        due("step(1)", pool.step(1), 0);
        due("step(1)", pool.step(1), 1);
        CHECKS.dueOfJoin(pool, 1, 0, 1, 18, 1, 3, 20, 20, 19, 2, 0, 0, 0);
        CHECKS.dueOfJoin(pool, 2, 0, 1, 18, 0, 3, 20, 0, 0, 2, 0, 0, 0);
        due("step(5)", pool.step(5), 2);
        CHECKS.dueOfJoin(pool, 3, 0, 1, 18, 1, 3, 20, 20, 9, 6, 1, 0, 0);
        due("undo()", pool.undo(), 3);
        due("step(1000)", pool.step(1000), 3);
        CHECKS.dueOfJoin(pool, 3, 0, 1, 18, 2, 3, 20, 0, 0, 6, 2, 0, 0);
        due("count(8)", pool.count(8), 1002);
        pool = new JoinGrants();
        pool.set(0, 20);
        pool.set(2, 1);
        pool.ask(0, 2, 8);
        pool.ask(0, 1, 8);
        pool.ask(1, 3, 196);
        CHECKS.dueOfJoin(pool, 2, 1, 3, 196, 0, 16, 237, 0, 0, 0, 0, 0, 0);
        due("step(1), both are done at once", pool.step(1), 2);
        due("so the third has all", pool.join(2, 6), 20);
        due("and nothing was asked back", pool.count(10), 0);
    }

    private static void stepSpeeds() {
        JoinGrants pool = new JoinGrants();
        pool.ask(1, 51, 50);
        due("join(0, 7)", pool.join(0, 7), 101);
        pool.set(3, 50);
        due("step(2)", pool.step(2), 0);
        due("join(0, 7)", pool.join(0, 7), 1);
        pool.set(3, 1);
        due("step(1)", pool.step(1), 1);
        due("count(9)", pool.count(9), 101);
    }

    private static void setSettings() {
        CHECKS.of("promise 7");
        JoinGrants pool = new JoinGrants();
        int[][] wrong = {{-1, 1}, {4, 1}, {0, 19}, {0, 501}, {1, -1}, {1, 2}, {2, -1}, {2, 2},
            {3, 0}, {3, 51}, {Integer.MAX_VALUE, 1}, {Integer.MIN_VALUE, 1}, {0, Integer.MIN_VALUE}};
        for (int[] one : wrong) {
            due("set(" + one[0] + ", " + one[1] + ")", pool.set(one[0], one[1]), JoinGrants.BAD_VALUE);
        }
        int[][] first = {{0, 100}, {1, 0}, {2, 0}, {3, 10}};
        for (int[] one : first) {
            due("set(" + one[0] + ", " + one[1] + ")", pool.set(one[0], one[1]), JoinGrants.NONE);
        }
        due("count(16)", pool.count(16), 0);
        int[][] right = {{0, 20, 100}, {0, 500, 20}, {1, 1, 0}, {1, 0, 1}, {2, 1, 0}, {2, 0, 1},
            {3, 1, 10}, {3, 50, 1}};
        for (int[] one : right) {
            due("set(" + one[0] + ", " + one[1] + ")", pool.set(one[0], one[1]), one[2]);
        }
        CHECKS.dueCounts(pool, 12, 500, 0, 0, 50, 4);
        due("undo()", pool.undo(), 3);
        due("count(15)", pool.count(15), 1);
        pool = new JoinGrants();
        pool.ask(0, 1, 98);
        pool.ask(0, 1, 5);
        pool.set(0, 102);
        due("join(1, 3), 2 free", pool.join(1, 3), 0);
        pool.set(0, 103);
        due("join(1, 6), 3 free", pool.join(1, 6), 3);
        pool.ask(0, 1, 5);
        pool.set(2, 1);
        due("join(2, 6), asked back", pool.join(2, 6), 3);
        due("join(0, 10)", pool.join(0, 10), 3);
    }

    private static void setStartsAll() {
        JoinGrants pool = new JoinGrants();
        pool.set(0, 20);
        pool.ask(2, 200, 200);
        for (int i = 1; i < 16; i++) {
            pool.ask(0, 1, 1);
        }
        due("all wait behind the first", pool.count(1), 16);
        pool.set(0, 500);
        due("all start at once", pool.count(2), 16);
        due("count(5)", pool.count(5), 203 + 15 * 3);
    }

    private static void setOrder() {
        JoinGrants pool = new JoinGrants();
        pool.ask(0, 1, 98);
        pool.ask(2, 60, 60);
        pool.ask(1, 1, 9);
        pool.ask(0, 1, 1);
        pool.ask(1, 9, 15);
        pool.ask(0, 2, 2);
        int[] asTheyCame = {1, 2, 3, 4, 5, JoinGrants.NONE};
        for (int rank = 0; rank < asTheyCame.length; rank++) {
            due("queue(" + rank + ")", pool.queue(rank), asTheyCame[rank]);
        }
        pool.set(0, 103);
        due("nothing starts behind join 1", pool.count(2), 1);
        due("set(1, 1)", pool.set(1, 1), 0);
        due("the least starts", pool.join(3, 3), 1);
        int[] leastFirst = {5, 2, 4, 1, JoinGrants.NONE};
        for (int rank = 0; rank < leastFirst.length; rank++) {
            due("queue(" + rank + ")", pool.queue(rank), leastFirst[rank]);
        }
        due("why(5)", pool.why(5), 3);
        due("why(1)", pool.why(1), 2);
    }

    private static void setSmallerPool() {
        JoinGrants pool = new JoinGrants();
        pool.set(2, 1);
        pool.ask(0, 90, 48);
        pool.ask(0, 9, 48);
        due("set(0, 60)", pool.set(0, 60), 100);
        CHECKS.dueCounts(pool, 5, 100, 0, 100);
        due("join(0, 6)", pool.join(0, 6), 50);
        pool.ask(0, 1, 1);
        due("nothing is asked back", pool.count(10), 0);
        due("why(2)", pool.why(2), 3);
        due("spare()", pool.spare(), 94);
        due("set(0, 99)", pool.set(0, 99), 60);
        due("join(2, 3)", pool.join(2, 3), 0);
        due("set(0, 100)", pool.set(0, 100), 99);
        due("join(2, 6)", pool.join(2, 6), 3);
        due("join(0, 10)", pool.join(0, 10), 3);
        due("count(7)", pool.count(7), 100);
    }
}
