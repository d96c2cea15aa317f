/** Compares answers with those that are due, and tells at the end whether all were. */
final class Checks {
    private int wrong;
    private int right;
    private String promise = "";

    /** Says which promise the next checks belong to. */
    void of(String newPromise) {
        promise = newPromise;
    }

    void due(String call, long got, long want) {
        if (got == want) {
            right++;
            return;
        }
        wrong++;
        System.out.println(promise + ": " + call + " answered " + got + ", due is " + want);
    }

    /** Checks each of many numbers. */
    void dueAll(String call, int[] got, int[] want) {
        due("how much is told after " + call, got.length, want.length);
        for (int i = 0; i < got.length && i < want.length; i++) {
            due("number " + i + " after " + call, got[i], want[i]);
        }
    }

    /** Checks what join(join, 0..11) tells. */
    void dueOfJoin(JoinGrants pool, int join, int... wants) {
        for (int what = 0; what < wants.length; what++) {
            due("join(" + join + ", " + what + ")", pool.join(join, what), wants[what]);
        }
    }

    /** Checks what count(from), count(from + 1) and so on tell. */
    void dueCounts(JoinGrants pool, int from, int... wants) {
        for (int i = 0; i < wants.length; i++) {
            due("count(" + (from + i) + ")", pool.count(from + i), wants[i]);
        }
    }

    void end(String test) {
        System.out.println(test + ": " + right + " answers as due, " + wrong + " not");
        if (wrong > 0 || right == 0) {
            System.exit(1);
        }
    }
}
