import java.util.function.ToIntFunction;

/** The sentences under "History" of the document's terms that name a boundary, and promises 10 to 12. */
public final class HistoryEdgesTest {
    private static final Checks CHECKS = new Checks();

    public static void main(String[] args) {
        fourStates();
        oldestIsDropped();
        latestIsRestored();
        eachActRecords();
        othersDoNotRecord();
        stateIsAllBut();
        snapshotIsEmptyAtFirst();
        oneSnapshot();
        restoreIsAnAct();
        CHECKS.end("HistoryEdgesTest");
    }

    private static void due(String call, long got, long want) {
        CHECKS.due(call, got, want);
    }

    private static void fourStates() {
        CHECKS.of("\"A history of at most 4 states is kept\"");
        for (int acts = 0; acts <= 6; acts++) {
            JoinGrants pool = new JoinGrants();
            for (int i = 1; i <= acts; i++) {
                due("step(1)", pool.step(1), 0);
                due("states after " + i + " acts", pool.count(16), Math.min(4, i));
            }
            int states = Math.min(4, acts);
            for (int left = states - 1; left >= 0; left--) {
                due("undo()", pool.undo(), left);
                due("count(16)", pool.count(16), left);
                due("count(8)", pool.count(8), acts - states + left);
            }
            due("undo(), nothing is left", pool.undo(), JoinGrants.NONE);
            due("undo() once more", pool.undo(), JoinGrants.NONE);
            due("count(16)", pool.count(16), 0);
            due("count(8)", pool.count(8), acts - states);
        }
    }

    private static void oldestIsDropped() {
        CHECKS.of("\"when one more is recorded, the oldest one is dropped\"");
        JoinGrants pool = new JoinGrants();
        for (int speed = 11; speed <= 15; speed++) {
            pool.set(3, speed);
        }
        for (int speed = 14; speed >= 11; speed--) {
            due("undo()", pool.undo(), speed - 11);
            due("count(15)", pool.count(15), speed);
        }
        due("undo(), that before the first act was dropped", pool.undo(), JoinGrants.NONE);
        pool.set(3, 20);
        due("count(16), one anew", pool.count(16), 1);
        for (int speed = 21; speed <= 30; speed++) {
            pool.set(3, speed);
        }
        due("count(16)", pool.count(16), 4);
        due("undo()", pool.undo(), 3);
        due("undo()", pool.undo(), 2);
        for (int speed = 31; speed <= 33; speed++) {
            pool.set(3, speed);
        }
        int[] speeds = {32, 31, 28, 27};
        for (int i = 0; i < speeds.length; i++) {
            due("undo()", pool.undo(), 3 - i);
            due("count(15)", pool.count(15), speeds[i]);
        }
        due("undo()", pool.undo(), JoinGrants.NONE);
    }

    private static void latestIsRestored() {
        CHECKS.of("\"undo() removes and restores the latest one\"");
        JoinGrants pool = new JoinGrants();
        for (int i = 0; i < 16; i++) {
            pool.ask(0, 1, 1);
        }
        due("undo()", pool.undo(), 3);
        due("count(0)", pool.count(0), 15);
        due("join(15, 0)", pool.join(15, 0), JoinGrants.UNKNOWN);
        due("ask, in the room of the one that is gone", pool.ask(2, 9, 10), 15);
        CHECKS.dueOfJoin(pool, 15, 2, 9, 10, 1, 6, 12, 12, 57, 0, 0, 0, 0);
        due("undo()", pool.undo(), 3);
        pool.step(1);
        due("undo() of a step", pool.undo(), 3);
        CHECKS.dueOfJoin(pool, 14, 0, 1, 1, 1, 3, 3, 3, 2, 0, 0, 0, 0);
    }

    /** A join at work and one that waits, a text, a snapshot and an empty history. */
    private static JoinGrants ready() {
        JoinGrants pool = new JoinGrants();
        pool.ask(0, 9, 98);
        pool.ask(1, 9, 9);
        pool.step(2);
        pool.keep();
        pool.set(3, 7);
        for (char character : "m7x8".toCharArray()) {
            pool.type(character);
        }
        return pool;
    }

    private static void dueRecorded(String call, int want, ToIntFunction<JoinGrants> act) {
        JoinGrants pool = ready();
        int[] before = Told.all(ready());
        due(call, act.applyAsInt(pool), want);
        due("undo() of " + call, pool.undo(), 3);
        before[Told.COUNTS + 16] = 3;
        CHECKS.dueAll("undo() of " + call, Told.all(pool), before);
    }

    private static void eachActRecords() {
        CHECKS.of("\"Each call of a method that is described as an act .. records the state\"");
        due("count(16)", ready().count(16), 4);
        dueRecorded("ask(0, 1, 1)", 2, pool -> pool.ask(0, 1, 1));
        dueRecorded("askAll()", 1, JoinGrants::askAll);
        dueRecorded("cancel(0)", 100, pool -> pool.cancel(0));
        dueRecorded("cancel(1)", 0, pool -> pool.cancel(1));
        dueRecorded("change(1, 0)", 1, pool -> pool.change(1, 0));
        dueRecorded("step(1)", 0, pool -> pool.step(1));
        dueRecorded("step(1000)", 2, pool -> pool.step(1000));
        dueRecorded("set(0, 20)", 100, pool -> pool.set(0, 20));
        dueRecorded("set(1, 1)", 0, pool -> pool.set(1, 1));
        dueRecorded("set(2, 1)", 0, pool -> pool.set(2, 1));
        dueRecorded("set(3, 50)", 7, pool -> pool.set(3, 50));
        dueRecorded("restore()", 2, JoinGrants::restore);
    }

    private static void othersDoNotRecord() {
        CHECKS.of("\"Each call of a method that is described as an act\", and no other");
        JoinGrants pool = new JoinGrants();
        pool.ask(0, 9, 98);
        pool.set(3, 7);
        due("count(16)", pool.count(16), 2);
        due("type('l')", pool.type('l'), 1);
        due("clearText()", pool.clearText(), 1);
        due("keep()", pool.keep(), 0);
        due("count(16)", pool.count(16), 2);
        Told.all(pool);
        pool.work(0, 1, 1, 3);
        pool.bestWay(1, 1, 3);
        due("count(16)", pool.count(16), 2);
        due("undo()", pool.undo(), 1);
        due("count(16), undo() records nothing", pool.count(16), 1);
        due("count(15)", pool.count(15), 10);
    }

    private static void stateIsAllBut() {
        CHECKS.of("\"A state is everything but the text, the history and the snapshot.\"");
        JoinGrants pool = ready();
        due("undo()", pool.undo(), 3);
        due("the text stays", pool.count(17), 4);
        due("restore(), the snapshot stays", pool.restore(), 2);
        due("the text stays", pool.count(17), 4);
        due("the history stays, with one more", pool.count(16), 4);
        due("askAll(), its characters", pool.askAll(), 1);
        CHECKS.dueOfJoin(pool, 2, 2, 7, 8, 0);
        pool = ready();
        pool.undo();
        pool.undo();
        due("count(8), before the step", pool.count(8), 0);
        due("restore(), taken before the undo", pool.restore(), 2);
        pool.keep();
        pool.clearText();
        pool.type('x');
        pool.undo();
        due("undo() leaves the text", pool.askAll(), -100);
        due("undo() leaves the text", pool.count(17), 1);
        due("undo() leaves the snapshot", pool.restore(), 2);
        CHECKS.of("\"A state is everything\"");
        pool = ready();
        pool.set(2, 1);
        int[] asTold = Told.all(pool);
        pool = ready();
        pool.set(2, 1);
        due("join(0, 10)", pool.join(0, 10), 5);
        due("step(20)", pool.step(20), 2);
        due("undo()", pool.undo(), 3);
        asTold[Told.COUNTS + 16] = 3;
        int peak = asTold[Told.COUNTS + 7];
        CHECKS.dueAll("undo()", Told.all(pool), asTold);
        due("the most granted", peak, 100);
        pool = new JoinGrants();
        pool.ask(0, 1, 1);
        pool.keep();
        pool.ask(0, 1, 50);
        due("the most granted", pool.count(7), 55);
        pool.restore();
        due("the most granted, as it was", pool.count(7), 3);
        pool.undo();
        due("the most granted, as it was", pool.count(7), 55);
    }

    private static void snapshotIsEmptyAtFirst() {
        CHECKS.of("\"There is one snapshot, empty at first.\"");
        JoinGrants pool = new JoinGrants();
        due("restore()", pool.restore(), JoinGrants.NONE);
        pool.step(3);
        due("restore(), acts take none", pool.restore(), JoinGrants.NONE);
        pool.undo();
        due("restore(), undo() takes none", pool.restore(), JoinGrants.NONE);
        due("count(16)", pool.count(16), 0);
        due("keep()", pool.keep(), 0);
        due("restore()", pool.restore(), 0);
        due("count(16)", pool.count(16), 1);
    }

    private static void oneSnapshot() {
        CHECKS.of("\"Takes a snapshot of the state, in place of the one that was.\"");
        JoinGrants pool = new JoinGrants();
        due("keep(), no steps", pool.keep(), 0);
        pool.step(1000);
        due("keep()", pool.keep(), 1000);
        pool.step(1);
        due("restore(), the latest", pool.restore(), 1000);
        due("keep(), as it was", pool.keep(), 1000);
        pool.undo();
        due("keep()", pool.keep(), 1001);
        pool.undo();
        due("restore()", pool.restore(), 1001);
        CHECKS.of("\"restores the state of the snapshot, which stays\"");
        due("restore()", pool.restore(), 1001);
        due("restore()", pool.restore(), 1001);
    }

    private static void restoreIsAnAct() {
        CHECKS.of("\"Returns the steps so far, as they are then\"");
        JoinGrants pool = new JoinGrants();
        pool.keep();
        pool.step(9);
        for (int i = 2; i <= 5; i++) {
            due("restore()", pool.restore(), 0);
            due("count(8)", pool.count(8), 0);
            due("count(16), it is recorded even if nothing is other", pool.count(16), Math.min(4, i));
        }
        due("undo()", pool.undo(), 3);
        due("undo()", pool.undo(), 2);
        due("undo()", pool.undo(), 1);
        due("count(8)", pool.count(8), 0);
        due("undo()", pool.undo(), 0);
        due("count(8)", pool.count(8), 9);
    }
}
