import java.util.ArrayList;
import java.util.List;
import java.util.function.ToIntFunction;

/**
 * Stands for one object, but calls none more than 512 times, as the document leaves free what is
 * answered then: a new one takes its place, on which all that changed something is done again.
 */
final class Replayed {
    private static final int MOST_CALLS = 512;
    /** So many changes leave each new object enough calls that tell something. */
    private static final int MOST_CHANGES = MOST_CALLS - 112;

    private final List<ToIntFunction<JoinGrants>> changes = new ArrayList<>();
    private JoinGrants pool = new JoinGrants();
    private int calls;

    /** Whether there is room for some more calls that change something. */
    boolean hasRoom(int more) {
        return changes.size() + more <= MOST_CHANGES;
    }

    /** Makes a call that may change something. */
    int change(ToIntFunction<JoinGrants> call) {
        int answer = tell(call);
        changes.add(call);
        return answer;
    }

    /** Makes a call that only tells something. */
    int tell(ToIntFunction<JoinGrants> call) {
        if (calls >= MOST_CALLS) {
            pool = new JoinGrants();
            changes.forEach(change -> change.applyAsInt(pool));
            calls = changes.size();
        }
        calls++;
        return call.applyAsInt(pool);
    }
}
