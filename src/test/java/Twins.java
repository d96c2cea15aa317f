import java.util.List;
import java.util.function.Consumer;
import java.util.function.ToIntFunction;

/**
 * Tells whether a call leaves a trace: of two objects that are made alike one gets the call, and
 * then both must tell the same. What an object does not tell at once (its history, its snapshot,
 * the characters of its text) is brought to light by further calls on two new ones.
 */
final class Twins {
    private static final List<ToIntFunction<JoinGrants>> AFTERMATHS = List.of(
            pool -> 0,
            pool -> undoTimes(pool, 1),
            pool -> undoTimes(pool, 2),
            pool -> undoTimes(pool, 3),
            pool -> undoTimes(pool, 4),
            pool -> undoTimes(pool, 5),
            JoinGrants::restore,
            JoinGrants::askAll,
            pool -> pool.restore() + 1000 * pool.askAll(),
            pool -> pool.step(30));

    private final Checks checks;
    private final Consumer<JoinGrants> making;

    Twins(Checks checks, Consumer<JoinGrants> making) {
        this.checks = checks;
        this.making = making;
    }

    private static int undoTimes(JoinGrants pool, int times) {
        int answer = 0;
        for (int i = 0; i < times; i++) {
            answer = answer * 10 + pool.undo();
        }
        return answer;
    }

    private JoinGrants made() {
        JoinGrants pool = new JoinGrants();
        making.accept(pool);
        return pool;
    }

    /** The call answers what is due, and all stays as if it had not been. */
    void untouched(String call, int due, ToIntFunction<JoinGrants> one) {
        for (int i = 0; i < AFTERMATHS.size(); i++) {
            JoinGrants called = made();
            checks.due(call, one.applyAsInt(called), due);
            JoinGrants other = made();
            String after = call + ", then aftermath " + i;
            checks.due(after, AFTERMATHS.get(i).applyAsInt(called), AFTERMATHS.get(i).applyAsInt(other));
            checks.dueAll(after, Told.all(called), Told.all(other));
        }
    }
}
