import java.util.function.Consumer;

/** Promises 10 to 12: undo, and the snapshot. */
public final class HistoryTest {
    private static final Checks CHECKS = new Checks();

    public static void main(String[] args) {
        undoGoesBack();
        undoKeepsFour();
        undoRestoresAll();
        undoOfEachAct();
        onlyActsAreRecorded();
        keepTakesTheState();
        restoreGivesTheState();
        CHECKS.end("HistoryTest");
    }

    private static void due(String call, long got, long want) {
        CHECKS.due(call, got, want);
    }

    private static void undoGoesBack() {
        CHECKS.of("promise 10");
        JoinGrants pool = new JoinGrants();
        due("undo()", pool.undo(), JoinGrants.NONE);
        pool.ask(0, 1, 1);
        pool.ask(0, 2, 2);
        due("undo()", pool.undo(), 1);
        due("count(0)", pool.count(0), 1);
        due("join(1, 0)", pool.join(1, 0), JoinGrants.UNKNOWN);
        due("undo()", pool.undo(), 0);
        due("count(0)", pool.count(0), 0);
        due("undo()", pool.undo(), JoinGrants.NONE);
        due("ask(1, 3, 3), the number is free again", pool.ask(1, 3, 3), 0);
        CHECKS.dueOfJoin(pool, 0, 1, 3, 3, 1, 3, 5, 5, 6, 0, 0, 0, 0);
    }

    private static void undoKeepsFour() {
        JoinGrants pool = new JoinGrants();
        for (int i = 1; i <= 7; i++) {
            pool.set(3, i);
            due("count(16)", pool.count(16), Math.min(i, 4));
        }
        for (int i = 6; i >= 3; i--) {
            due("undo()", pool.undo(), i - 3);
            due("count(15)", pool.count(15), i);
        }
        due("undo()", pool.undo(), JoinGrants.NONE);
        due("count(15)", pool.count(15), 3);
        pool.set(3, 30);
        pool.set(3, 31);
        due("undo()", pool.undo(), 1);
        due("count(15)", pool.count(15), 30);
    }

    private static void undoRestoresAll() {
        JoinGrants pool = new JoinGrants();
        pool.ask(0, 1, 1);
        pool.ask(0, 1, 50);
        pool.undo();
        due("the most granted before", pool.count(7), 3);
        undoRestores("set", one -> one.set(0, 20));
        undoRestores("step", one -> one.step(300));
        undoRestores("ask", one -> one.ask(0, 200, 200));
        undoRestores("cancel", one -> one.cancel(0));
    }

    private static JoinGrants atWork() {
        JoinGrants pool = new JoinGrants();
        pool.set(2, 1);
        pool.ask(0, 40, 96);
        pool.ask(1, 5, 9);
        pool.step(1);
        pool.ask(2, 30, 30);
        return pool;
    }

    private static void undoRestores(String act, Consumer<JoinGrants> one) {
        JoinGrants pool = atWork();
        one.accept(pool);
        pool.undo();
        compare("undo of " + act, Told.all(atWork()), pool);
    }

    /** Compares all that is told of a state, but for the number of those in the history. */
    private static void compare(String call, int[] before, JoinGrants pool) {
        int[] now = Told.all(pool);
        now[Told.COUNTS + 16] = before[Told.COUNTS + 16];
        CHECKS.dueAll(call, now, before);
    }

    private static void undoOfEachAct() {
        JoinGrants pool = new JoinGrants();
        pool.ask(0, 1, 98);
        pool.ask(1, 5, 5);
        pool.change(1, 2);
        due("undo()", pool.undo(), 2);
        due("join(1, 0)", pool.join(1, 0), 1);
        due("join(1, 4)", pool.join(1, 4), 4);
        due("join(1, 5)", pool.join(1, 5), 8);
        pool.keep();
        pool.step(7);
        pool.restore();
        due("count(16)", pool.count(16), 4);
        due("undo()", pool.undo(), 3);
        due("count(8)", pool.count(8), 7);
        due("undo() is no act", pool.undo(), 2);
        due("count(8)", pool.count(8), 0);
    }

    private static void onlyActsAreRecorded() {
        JoinGrants pool = new JoinGrants();
        pool.ask(0, 1, 98);
        pool.ask(0, 1, 1);
        due("count(16)", pool.count(16), 2);
        pool.ask(3, 1, 1);
        pool.askAll();
        pool.cancel(5);
        pool.change(0, 1);
        pool.change(1, 0);
        pool.change(1, 3);
        pool.step(0);
        pool.set(0, 100);
        pool.set(0, 1);
        pool.type('x');
        pool.clearText();
        pool.keep();
        pool.join(0, 0);
        pool.why(1);
        pool.queue(0);
        pool.work(0, 1, 1, 3);
        pool.bestWay(1, 1, 3);
        pool.doneIn(1);
        pool.count(0);
        pool.spare();
        due("count(16)", pool.count(16), 2);
        due("count(8)", pool.count(8), 0);
    }

    private static void keepTakesTheState() {
        CHECKS.of("promise 11");
        JoinGrants pool = new JoinGrants();
        due("keep()", pool.keep(), 0);
        pool.step(12);
        due("keep()", pool.keep(), 12);
        pool.ask(0, 1, 1);
        pool.step(5);
        due("keep()", pool.keep(), 17);
        due("it is no act", pool.count(16), 3);
        pool.step(1);
        pool.undo();
        pool.undo();
        pool.undo();
        due("restore(), the latest one", pool.restore(), 17);
        due("count(0)", pool.count(0), 1);
        due("join(0, 3)", pool.join(0, 3), 2);
        due("join(0, 9)", pool.join(0, 9), 1);
    }

    /** A pool with a snapshot of one join at work, and acts after that. */
    private static JoinGrants keptAndGoneOn() {
        JoinGrants pool = kept();
        pool.step(30);
        pool.ask(0, 3, 3);
        pool.set(0, 30);
        return pool;
    }

    private static JoinGrants kept() {
        JoinGrants pool = new JoinGrants();
        pool.ask(1, 60, 80);
        pool.step(2);
        pool.keep();
        return pool;
    }

    private static void restoreGivesTheState() {
        CHECKS.of("promise 12");
        JoinGrants pool = new JoinGrants();
        due("restore()", pool.restore(), JoinGrants.NONE);
        due("count(16)", pool.count(16), 0);
        pool = keptAndGoneOn();
        due("restore()", pool.restore(), 2);
        due("count(16)", pool.count(16), 4);
        compare("restore", Told.all(kept()), pool);
        pool = keptAndGoneOn();
        pool.restore();
        due("cancel(0)", pool.cancel(0), 98);
        due("restore(), the snapshot stays", pool.restore(), 2);
        due("undo()", pool.undo(), 3);
        due("join(0, 3)", pool.join(0, 3), 3);
        pool.undo();
        due("undo() leaves the snapshot", pool.restore(), 2);
        compare("restore once more", Told.all(kept()), pool);
    }
}
