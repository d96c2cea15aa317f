/** "A call that returns an error or NONE changes nothing": each call that can be refused, in several states. */
public final class RefusedCallsTest {
    private static final Checks CHECKS = new Checks();
    private static final int MIN = Integer.MIN_VALUE;
    private static final int MAX = Integer.MAX_VALUE;
    private static final int[][] BAD_ASKS = {{-1, 1, 1}, {3, 1, 1}, {0, 0, 1}, {0, 201, 1}, {1, 1, 0},
        {1, 1, 201}, {MIN, 1, 1}, {MAX, 1, 1}, {2, MIN, 1}, {2, MAX, 1}, {2, 1, MIN}, {2, 1, MAX}};
    private static final int[][] BAD_SETTINGS = {{-1, 1}, {4, 1}, {MIN, 1}, {MAX, 1}, {0, 19}, {0, 501},
        {1, -1}, {1, 2}, {2, -1}, {2, 2}, {3, 0}, {3, 51}, {0, MIN}, {0, MAX}, {3, MIN}, {3, MAX}};
    private static final String SIXTY = "l200x200,b200x200,m200x200,l100x100,b100x100,m100x100,l10x10";

    public static void main(String[] args) {
        inANewObject();
        withJoinsOfAllStates();
        withAPoolThatIsTooSmall();
        withSixteenJoins();
        withTenJoins();
        withFaults();
        CHECKS.end("RefusedCallsTest");
    }

    private static void inANewObject() {
        CHECKS.of("changes nothing, a new object");
        Twins twins = new Twins(CHECKS, pool -> { });
        valuesAreChecked(twins);
        unknownJoins(twins, 0);
        twins.untouched("askAll()", -100, JoinGrants::askAll);
        twins.untouched("undo()", JoinGrants.NONE, JoinGrants::undo);
        twins.untouched("restore()", JoinGrants.NONE, JoinGrants::restore);
        twins.untouched("queue(0)", JoinGrants.NONE, pool -> pool.queue(0));
        twins.untouched("clearText()", 0, JoinGrants::clearText);
        settingsThatAreSo(twins, 100, 0, 0, 10);
    }

    /** Joins 0 and 2 are at work, 1 is done, 3 cancelled, 4 and 5 wait; the history is full. */
    private static void busy(JoinGrants pool) {
        pool.set(2, 1);
        pool.ask(0, 5, 40);
        pool.ask(0, 2, 2);
        pool.ask(1, 60, 80);
        pool.ask(2, 30, 30);
        pool.step(1);
        pool.cancel(3);
        pool.keep();
        pool.ask(2, 200, 200);
        pool.cancel(4);
        pool.undo();
        pool.undo();
        pool.set(0, 30);
        pool.ask(2, 200, 200);
        pool.ask(1, 9, 9);
        type(pool, "l1x2,b3x4");
    }

    private static void type(JoinGrants pool, String text) {
        for (char character : text.toCharArray()) {
            pool.type(character);
        }
    }

    private static void withJoinsOfAllStates() {
        CHECKS.of("changes nothing, joins of all states");
        JoinGrants made = new JoinGrants();
        busy(made);
        int[] states = {1, 2, 1, 3, 0, 0};
        for (int join = 0; join < states.length; join++) {
            CHECKS.due("state of join " + join, made.join(join, 3), states[join]);
        }
        CHECKS.due("states in the history", made.count(16), 4);
        Twins twins = new Twins(CHECKS, RefusedCallsTest::busy);
        valuesAreChecked(twins);
        unknownJoins(twins, states.length);
        settingsThatAreSo(twins, 30, 0, 1, 10);
        for (int join = 0; join < states.length; join++) {
            joinsAreChecked(twins, join, states[join]);
        }
        twins.untouched("change(4, 2), so already", JoinGrants.NONE, pool -> pool.change(4, 2));
        twins.untouched("change(5, 1), so already", JoinGrants.NONE, pool -> pool.change(5, 1));
        twins.untouched("doneIn(3), cancelled", JoinGrants.NOT_POSSIBLE, pool -> pool.doneIn(3));
        twins.untouched("queue(2)", JoinGrants.NONE, pool -> pool.queue(2));
    }

    /** What a join's number and state forbid. */
    private static void joinsAreChecked(Twins twins, int join, int state) {
        for (int wrong : new int[] {-1, 12, MIN, MAX}) {
            twins.untouched("join(" + join + ", " + wrong + ")", JoinGrants.BAD_VALUE, pool -> pool.join(join, wrong));
        }
        for (int wrong : new int[] {-1, 3, MIN, MAX}) {
            twins.untouched("change(" + join + ", " + wrong + ")", JoinGrants.BAD_VALUE, pool -> pool.change(join, wrong));
        }
        if (state != 0) {
            for (int way = 0; way <= 2; way++) {
                int to = way;
                twins.untouched("change(" + join + ", " + to + ")", JoinGrants.NOT_POSSIBLE, pool -> pool.change(join, to));
            }
        }
        if (state > 1) {
            twins.untouched("cancel(" + join + ")", JoinGrants.NOT_POSSIBLE, pool -> pool.cancel(join));
        }
    }

    private static void withAPoolThatIsTooSmall() {
        CHECKS.of("changes nothing, joins that never start");
        Twins twins = new Twins(CHECKS, pool -> {
            pool.set(0, 21);
            pool.ask(2, 200, 200);
            pool.ask(0, 1, 1);
        });
        twins.untouched("doneIn(0)", JoinGrants.NONE, pool -> pool.doneIn(0));
        twins.untouched("doneIn(1)", JoinGrants.NONE, pool -> pool.doneIn(1));
        twins.untouched("why(0)", 1, pool -> pool.why(0));
        settingsThatAreSo(twins, 21, 0, 0, 10);
    }

    private static void withSixteenJoins() {
        CHECKS.of("changes nothing, 16 joins and 60 characters");
        Twins twins = new Twins(CHECKS, pool -> {
            for (int i = 0; i < 16; i++) {
                pool.ask(i % 3, 9 + i, 9);
                if (i == 5) {
                    pool.keep();
                }
            }
            type(pool, SIXTY);
        });
        valuesAreChecked(twins);
        unknownJoins(twins, 16);
        twins.untouched("ask(0, 1, 1)", JoinGrants.FULL, pool -> pool.ask(0, 1, 1));
        twins.untouched("ask(2, 200, 200)", JoinGrants.FULL, pool -> pool.ask(2, 200, 200));
        twins.untouched("askAll()", JoinGrants.FULL, JoinGrants::askAll);
        twins.untouched("type('l')", JoinGrants.FULL, pool -> pool.type('l'));
        twins.untouched("type(0)", JoinGrants.FULL, pool -> pool.type((char) 0));
        twins.untouched("type(65535)", JoinGrants.FULL, pool -> pool.type((char) 65535));
    }

    private static void withTenJoins() {
        CHECKS.of("changes nothing, 10 joins and a text of 7");
        Twins twins = new Twins(CHECKS, pool -> {
            for (int i = 0; i < 9; i++) {
                pool.ask(0, 1, 1);
            }
            pool.keep();
            pool.ask(0, 1, 1);
            type(pool, SIXTY);
        });
        twins.untouched("askAll()", JoinGrants.FULL, JoinGrants::askAll);
    }

    private static void withFaults() {
        String[] texts = {"l", "l1x1,", "l1x1,b0x1", "l201x1", "l1x201", "?", SIXTY.replace('1', '0')};
        int[] faults = {1, 5, 6, 3, 5, 0, 28};
        for (int i = 0; i < texts.length; i++) {
            String text = texts[i];
            CHECKS.of("changes nothing, the text " + text);
            new Twins(CHECKS, pool -> type(pool, text))
                    .untouched("askAll()", -100 - faults[i], JoinGrants::askAll);
        }
    }

    /** The arguments, other than joins, that are refused in every state. */
    private static void valuesAreChecked(Twins twins) {
        for (int[] one : BAD_ASKS) {
            String values = one[0] + ", " + one[1] + ", " + one[2];
            twins.untouched("ask(" + values + ")", JoinGrants.BAD_VALUE, pool -> pool.ask(one[0], one[1], one[2]));
            twins.untouched("work(" + values + ", 500)", JoinGrants.BAD_VALUE,
                    pool -> pool.work(one[0], one[1], one[2], 500));
        }
        for (int[] one : BAD_SETTINGS) {
            twins.untouched("set(" + one[0] + ", " + one[1] + ")", JoinGrants.BAD_VALUE,
                    pool -> pool.set(one[0], one[1]));
        }
        for (int steps : new int[] {0, -1, 1001, MIN, MAX}) {
            twins.untouched("step(" + steps + ")", JoinGrants.BAD_VALUE, pool -> pool.step(steps));
        }
        for (int rank : new int[] {-1, MIN}) {
            twins.untouched("queue(" + rank + ")", JoinGrants.BAD_VALUE, pool -> pool.queue(rank));
        }
        for (int what : new int[] {-1, 18, MIN, MAX}) {
            twins.untouched("count(" + what + ")", JoinGrants.BAD_VALUE, pool -> pool.count(what));
        }
        for (int pages : new int[] {2, 501, MIN, MAX}) {
            twins.untouched("work(0, 1, 1, " + pages + ")", JoinGrants.BAD_VALUE, pool -> pool.work(0, 1, 1, pages));
            twins.untouched("bestWay(1, 1, " + pages + ")", JoinGrants.BAD_VALUE, pool -> pool.bestWay(1, 1, pages));
        }
        for (int table : new int[] {0, 201, MIN, MAX}) {
            twins.untouched("bestWay(" + table + ", 1, 3)", JoinGrants.BAD_VALUE, pool -> pool.bestWay(table, 1, 3));
            twins.untouched("bestWay(1, " + table + ", 3)", JoinGrants.BAD_VALUE, pool -> pool.bestWay(1, table, 3));
        }
        twins.untouched("work(1, 1, 200, 15)", JoinGrants.NONE, pool -> pool.work(1, 1, 200, 15));
        twins.untouched("work(2, 200, 200, 21)", JoinGrants.NONE, pool -> pool.work(2, 200, 200, 21));
    }

    /** The numbers that no join has, joins being those that came. */
    private static void unknownJoins(Twins twins, int joins) {
        for (int join : new int[] {-1, joins, 16, MIN, MAX}) {
            twins.untouched("cancel(" + join + ")", JoinGrants.UNKNOWN, pool -> pool.cancel(join));
            twins.untouched("change(" + join + ", 1)", JoinGrants.UNKNOWN, pool -> pool.change(join, 1));
            twins.untouched("change(" + join + ", 3)", JoinGrants.UNKNOWN, pool -> pool.change(join, 3));
            twins.untouched("join(" + join + ", 0)", JoinGrants.UNKNOWN, pool -> pool.join(join, 0));
            twins.untouched("join(" + join + ", 12)", JoinGrants.UNKNOWN, pool -> pool.join(join, 12));
            twins.untouched("why(" + join + ")", JoinGrants.UNKNOWN, pool -> pool.why(join));
            twins.untouched("doneIn(" + join + ")", JoinGrants.UNKNOWN, pool -> pool.doneIn(join));
        }
    }

    private static void settingsThatAreSo(Twins twins, int... values) {
        for (int i = 0; i < values.length; i++) {
            int which = i;
            twins.untouched("set(" + which + ", " + values[which] + ")", JoinGrants.NONE,
                    pool -> pool.set(which, values[which]));
        }
    }
}
