/** Compares runs of calls, chosen by a fixed rule, with the model, and all of work and bestWay. */
public final class RandomRunsTest {
    private static final int RUNS = 1900;
    private static final int CALLS = 120;
    /** The most that one of them types and asks: a cleared text, 14 joins, a sign, askAll(). */
    private static final int MOST_AT_ONCE = 1 + 14 * 9 + 1 + 1;
    private static final Checks CHECKS = new Checks();

    private long seed;
    private final Replayed pool = new Replayed();
    private final Model model = new Model();

    private RandomRunsTest(int run) {
        seed = run * 7919L + 17;
        CHECKS.of("run " + run);
    }

    public static void main(String[] args) {
        for (int run = 0; run < RUNS; run++) {
            RandomRunsTest one = new RandomRunsTest(run);
            for (int call = 0; call < CALLS && one.pool.hasRoom(MOST_AT_ONCE); call++) {
                one.callOne(run % 3);
                one.compareAll(call % 40 == 39);
            }
        }
        compareWorks();
        CHECKS.end("RandomRunsTest");
    }

    /** A number from 0 to below, by a generator of our own, so that each run is the same anew. */
    private int any(int below) {
        seed = seed * 6364136223846793005L + 1442695040888963407L;
        return (int) Math.floorMod(seed >>> 33, (long) below);
    }

    private int table() {
        int kind = any(12);
        return kind == 0 ? any(3) - 1 : kind == 1 ? 199 + any(3) : kind < 7 ? 1 + any(40) : 1 + any(200);
    }

    private int someJoin() {
        return any(18) - 1;
    }

    private void callOne(int mood) {
        switch (any(mood == 0 ? 14 : 11)) {
            case 0: case 1: case 2:
                askOne();
                break;
            case 3: {
                int join = someJoin();
                CHECKS.due("cancel(" + join + ")", pool.change(one -> one.cancel(join)), model.cancel(join));
                break;
            }
            case 4: {
                int join = someJoin();
                int way = any(5) - 1;
                CHECKS.due("change(" + join + ", " + way + ")", pool.change(one -> one.change(join, way)), model.change(join, way));
                break;
            }
            case 5: case 6: {
                int steps = any(9) == 0 ? any(1003) - 1 : any(12);
                CHECKS.due("step(" + steps + ")", pool.change(one -> one.step(steps)), model.step(steps));
                break;
            }
            case 7: case 8:
                setOne();
                break;
            case 9:
                textOne();
                break;
            default:
                historyOne(mood);
                break;
        }
    }

    private void askOne() {
        int way = any(20) == 0 ? any(2) * 4 - 1 : any(3);
        int left = table();
        int right = table();
        CHECKS.due("ask(" + way + ", " + left + ", " + right + ")",
                pool.change(one -> one.ask(way, left, right)), model.ask(way, left, right));
    }

    private void setOne() {
        int which = any(6) - 1;
        int value;
        if (which == 0) {
            value = any(3) == 0 ? any(502) : 19 + any(60);
        } else if (which == 3) {
            value = any(52);
        } else {
            value = any(10) == 0 ? any(2) * 3 - 1 : any(2);
        }
        CHECKS.due("set(" + which + ", " + value + ")", pool.change(one -> one.set(which, value)), model.set(which, value));
    }

    private void textOne() {
        if (any(3) == 0) {
            CHECKS.due("clearText()", pool.change(JoinGrants::clearText), model.clearText());
        }
        int joins = 1 + any(any(5) == 0 ? 14 : 4);
        for (int i = 0; i < joins; i++) {
            typeAll((i == 0 ? "" : ",") + "lbm".charAt(any(3)) + (1 + any(any(2) == 0 ? 9 : 200)) + "x"
                    + (1 + any(any(2) == 0 ? 9 : 200)));
        }
        if (any(4) == 0) {
            typeAll("" + anySign());
        }
        CHECKS.due("askAll()", pool.change(JoinGrants::askAll), model.askAll());
    }

    private char anySign() {
        return "lbmx,0123456789 z\n\u00b2".charAt(any(19));
    }

    private void typeAll(String text) {
        for (char right : text.toCharArray()) {
            char character = any(60) == 0 ? anySign() : right;
            CHECKS.due("type(" + character + ")", pool.change(one -> one.type(character)), model.type(character));
        }
    }

    private void historyOne(int mood) {
        int kind = any(mood == 0 ? 4 : 6);
        if (kind <= 1) {
            CHECKS.due("undo()", pool.change(JoinGrants::undo), model.undo());
        } else if (kind == 2) {
            CHECKS.due("keep()", pool.change(JoinGrants::keep), model.keep());
        } else if (kind == 3) {
            CHECKS.due("restore()", pool.change(JoinGrants::restore), model.restore());
        }
    }

    private void compareAll(boolean far) {
        for (int join = -1; join <= 16; join++) {
            for (int what = -1; what <= 12; what++) {
                compareJoin(join, what);
            }
            compareWaiting(join);
            if (far) {
                compareDoneIn(join);
            }
        }
        for (int what = -1; what <= 18; what++) {
            compareCount(what);
        }
        CHECKS.due("spare()", pool.tell(JoinGrants::spare), model.spare());
    }

    private void compareJoin(int join, int what) {
        CHECKS.due("join(" + join + ", " + what + ")", pool.tell(one -> one.join(join, what)), model.join(join, what));
    }

    private void compareWaiting(int number) {
        CHECKS.due("why(" + number + ")", pool.tell(one -> one.why(number)), model.why(number));
        CHECKS.due("queue(" + number + ")", pool.tell(one -> one.queue(number)), model.queue(number));
    }

    private void compareDoneIn(int join) {
        CHECKS.due("doneIn(" + join + ")", pool.tell(one -> one.doneIn(join)), model.doneIn(join));
    }

    private void compareCount(int what) {
        CHECKS.due("count(" + what + ")", pool.tell(one -> one.count(what)), model.count(what));
    }

    /** Compares all ways for tables and pages at and around their edges. */
    private static void compareWorks() {
        CHECKS.of("works");
        Model model = new Model();
        int[] tables = {0, 1, 2, 3, 7, 10, 24, 25, 50, 99, 100, 149, 199, 200, 201};
        for (int left : tables) {
            for (int right : tables) {
                for (int pages = 2; pages <= 501; pages += pages < 30 || pages > 495 ? 1 : 5) {
                    JoinGrants pool = new JoinGrants();
                    for (int way = -1; way <= 3; way++) {
                        CHECKS.due("work(" + way + ", " + left + ", " + right + ", " + pages + ")",
                                pool.work(way, left, right, pages), model.workTold(way, left, right, pages));
                    }
                    CHECKS.due("bestWay(" + left + ", " + right + ", " + pages + ")",
                            pool.bestWay(left, right, pages), model.bestWay(left, right, pages));
                }
            }
        }
    }
}
