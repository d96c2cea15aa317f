/** All that an object tells of itself, in 260 calls, so that two states can be compared. */
final class Told {
    /** The place of count(0) among all that is told. */
    static final int COUNTS = 15 * 16;
    private static final int JOINS = 16;

    private Told() {
    }

    static int[] all(JoinGrants pool) {
        int[] told = new int[COUNTS + 20];
        int i = 0;
        for (int join = 0; join < JOINS; join++) {
            for (int what = 0; what < 12; what++) {
                told[i++] = pool.join(join, what);
            }
            told[i++] = pool.why(join);
            told[i++] = pool.doneIn(join);
            told[i++] = pool.queue(join);
        }
        for (int what = 0; what < 18; what++) {
            told[i++] = pool.count(what);
        }
        told[i++] = pool.spare();
        told[i] = pool.queue(JOINS);
        return told;
    }
}
