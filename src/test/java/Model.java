import java.util.ArrayList;
import java.util.Comparator;
import java.util.List;

/**
 * The document once more, told as naively as can be: lists, sorting, doubles for roots, one step
 * after the other, a new copy for every state. RandomRunsTest compares the class with it.
 */
final class Model {
    static final class Row {
        int number, way, l, r, state, pages, left, waited, worked, gave;

        Row copy() {
            Row row = new Row();
            row.number = number; row.way = way; row.l = l; row.r = r; row.state = state;
            row.pages = pages; row.left = left; row.waited = waited; row.worked = worked;
            row.gave = gave;
            return row;
        }

        int spare() {
            return state == 1 ? pages - need(way, l, r) : 0;
        }

        boolean spills() {
            return state == 1 && way != 0 && pages < want(way, l, r);
        }
    }

    static final class State {
        final List<Row> rows = new ArrayList<>();
        final int[] settings = {100, 0, 0, 10};
        int peak, steps, workDone, asked;

        State copy() {
            State state = new State();
            rows.forEach(row -> state.rows.add(row.copy()));
            System.arraycopy(settings, 0, state.settings, 0, 4);
            state.peak = peak; state.steps = steps; state.workDone = workDone; state.asked = asked;
            return state;
        }

        int granted() {
            return rows.stream().mapToInt(row -> row.pages).sum();
        }

        int free() {
            return Math.max(0, settings[0] - granted());
        }

        int spare() {
            return rows.stream().mapToInt(Row::spare).sum();
        }

        List<Row> queue() {
            List<Row> queue = new ArrayList<>();
            for (Row row : rows) {
                if (row.state == 0) {
                    queue.add(row);
                }
            }
            if (settings[1] == 1) {
                queue.sort(Comparator.comparingInt(row -> need(row.way, row.l, row.r)));
            }
            return queue;
        }

        void goThrough() {
            for (Row row : queue()) {
                int need = need(row.way, row.l, row.r);
                if (granted() > settings[0]) {
                    return;
                }
                int pages;
                if (free() >= need) {
                    pages = Math.min(free(), want(row.way, row.l, row.r));
                } else if (settings[2] == 1 && free() + spare() >= need) {
                    while (free() < need) {
                        askOne(need - free());
                    }
                    pages = need;
                } else {
                    return;
                }
                row.state = 1;
                row.pages = pages;
                row.left = work(row.way, row.l, row.r, pages);
                peak = Math.max(peak, granted());
            }
        }

        void askOne(int lacking) {
            List<Row> givers = new ArrayList<>(rows);
            givers.sort(Comparator.comparingInt((Row row) -> -row.spare()));
            Row giver = givers.get(0);
            int given = Math.min(lacking, giver.spare());
            int h = giver.pages;
            int g = h - given;
            long before = work(giver.way, giver.l, giver.r, h);
            long after = work(giver.way, giver.l, giver.r, g);
            long product = giver.left * after;
            giver.left = (int) (product / before + (product % before == 0 ? 0 : 1)) + given;
            giver.pages = g;
            giver.gave += given;
            asked += given;
        }

        int oneStep() {
            steps++;
            int done = 0;
            for (Row row : rows) {
                if (row.state == 0) {
                    row.waited++;
                } else if (row.state == 1) {
                    row.worked++;
                    int taken = Math.min(row.left, settings[3]);
                    row.left -= taken;
                    workDone += taken;
                    if (row.left == 0) {
                        row.state = 2;
                        row.pages = 0;
                        done++;
                    }
                }
            }
            if (done > 0) {
                goThrough();
            }
            return done;
        }

        int come(int way, int l, int r) {
            Row row = new Row();
            row.number = rows.size();
            row.way = way;
            row.l = l;
            row.r = r;
            rows.add(row);
            goThrough();
            return row.number;
        }
    }

    private State state = new State();
    private State kept;
    private final List<State> history = new ArrayList<>();
    private String text = "";

    static int root(int x) {
        return (int) Math.floor(Math.sqrt(x));
    }

    static int need(int way, int l, int r) {
        return way == 0 ? 3 : way == 1 ? root(r) + 2 : root(l + r) + 2;
    }

    static int want(int way, int l, int r) {
        int want = way == 0 ? r + 2 : way == 1 ? r + r / 5 + 2 : (l + r) / 2 + 3;
        return Math.max(want, need(way, l, r));
    }

    static int up(int a, int b) {
        return (int) Math.ceil((double) a / b);
    }

    static int work(int way, int l, int r, int g) {
        if (way == 0) {
            return l + r * up(l, g - 2);
        }
        if (way == 1) {
            return g >= want(way, l, r) ? l + r : 3 * (l + r);
        }
        int p = 0;
        for (int x = up(l + r, g); x != 1; x = up(x, g - 1)) {
            p++;
        }
        return (l + r) * (2 * p + 1);
    }

    private static boolean in(int low, int value, int high) {
        return low <= value && value <= high;
    }

    private static boolean tables(int way, int l, int r) {
        return in(0, way, 2) && in(1, l, 200) && in(1, r, 200);
    }

    private void record() {
        history.add(state.copy());
        if (history.size() > 4) {
            history.remove(0);
        }
    }

    private Row row(int join) {
        return in(0, join, state.rows.size() - 1) ? state.rows.get(join) : null;
    }

    int ask(int way, int l, int r) {
        if (!tables(way, l, r)) {
            return -2;
        }
        if (state.rows.size() == 16) {
            return -3;
        }
        record();
        return state.come(way, l, r);
    }

    /** The fault is found by asking of each beginning whether some text of joins begins so. */
    static int fault(String text) {
        String number = "(?:[1-9]\\d?|1\\d\\d|200)";
        String join = "[lbm]" + number + "x" + number;
        if (text.matches(join + "(?:," + join + ")*")) {
            return -1;
        }
        String begun = "(?:[lbm](?:" + number + "(?:x(?:" + number + ")?)?)?)?";
        int fault = 0;
        while (fault < text.length()
                && text.substring(0, fault + 1).matches("(?:" + join + ",)*" + begun)) {
            fault++;
        }
        return fault;
    }

    int askAll() {
        int fault = fault(text);
        if (fault >= 0) {
            return -100 - fault;
        }
        String[] joins = text.split(",");
        if (state.rows.size() + joins.length > 16) {
            return -3;
        }
        record();
        for (String join : joins) {
            String[] sides = join.substring(1).split("x");
            state.come("lbm".indexOf(join.charAt(0)), Integer.parseInt(sides[0]), Integer.parseInt(sides[1]));
        }
        return joins.length;
    }

    int cancel(int join) {
        if (row(join) == null) {
            return -1;
        }
        if (row(join).state > 1) {
            return -4;
        }
        record();
        Row row = row(join);
        int had = row.pages;
        row.state = 3;
        row.pages = 0;
        row.left = 0;
        state.goThrough();
        return had;
    }

    int change(int join, int way) {
        if (row(join) == null) {
            return -1;
        }
        if (!in(0, way, 2)) {
            return -2;
        }
        if (row(join).state != 0) {
            return -4;
        }
        int previous = row(join).way;
        if (previous == way) {
            return -5;
        }
        record();
        row(join).way = way;
        state.goThrough();
        return previous;
    }

    int step(int steps) {
        if (!in(1, steps, 1000)) {
            return -2;
        }
        record();
        int done = 0;
        for (int i = 0; i < steps; i++) {
            done += state.oneStep();
        }
        return done;
    }

    int set(int which, int value) {
        if (!in(0, which, 3) || !(which == 0 ? in(20, value, 500)
                : which == 3 ? in(1, value, 50) : in(0, value, 1))) {
            return -2;
        }
        int previous = state.settings[which];
        if (previous == value) {
            return -5;
        }
        record();
        state.settings[which] = value;
        state.goThrough();
        return previous;
    }

    int type(char character) {
        if (text.length() == 60) {
            return -3;
        }
        text += character;
        return text.length();
    }

    int clearText() {
        int had = text.length();
        text = "";
        return had;
    }

    int undo() {
        if (history.isEmpty()) {
            return -5;
        }
        state = history.remove(history.size() - 1);
        return history.size();
    }

    int keep() {
        kept = state.copy();
        return state.steps;
    }

    int restore() {
        if (kept == null) {
            return -5;
        }
        record();
        state = kept.copy();
        return state.steps;
    }

    int join(int join, int what) {
        Row row = row(join);
        if (row == null) {
            return -1;
        }
        if (!in(0, what, 11)) {
            return -2;
        }
        return new int[] {row.way, row.l, row.r, row.state, need(row.way, row.l, row.r),
            want(row.way, row.l, row.r), row.pages, row.left, row.waited, row.worked, row.gave,
            row.spills() ? 1 : 0}[what];
    }

    int why(int join) {
        Row row = row(join);
        if (row == null) {
            return -1;
        }
        if (row.state != 0) {
            return 0;
        }
        if (need(row.way, row.l, row.r) > state.settings[0]) {
            return 1;
        }
        return state.queue().get(0) != row ? 2 : 3;
    }

    int queue(int rank) {
        List<Row> queue = state.queue();
        return rank < 0 ? -2 : rank >= queue.size() ? -5 : queue.get(rank).number;
    }

    int workTold(int way, int l, int r, int pages) {
        if (!tables(way, l, r) || !in(3, pages, 500)) {
            return -2;
        }
        return pages < need(way, l, r) ? -5 : work(way, l, r, pages);
    }

    int bestWay(int l, int r, int pages) {
        if (!tables(0, l, r) || !in(3, pages, 500)) {
            return -2;
        }
        int best = 0;
        for (int way = 1; way <= 2; way++) {
            if (pages >= need(way, l, r) && work(way, l, r, pages) < work(best, l, r, pages)) {
                best = way;
            }
        }
        return best;
    }

    int doneIn(int join) {
        if (row(join) == null) {
            return -1;
        }
        if (row(join).state == 3) {
            return -4;
        }
        State trial = state.copy();
        for (int passed = 0; passed <= 20000; passed++) {
            if (trial.rows.get(join).state == 2) {
                return passed;
            }
            trial.oneStep();
        }
        return -5;
    }

    int count(int what) {
        if (!in(0, what, 17)) {
            return -2;
        }
        int[] states = new int[4];
        state.rows.forEach(row -> states[row.state]++);
        int spilling = (int) state.rows.stream().filter(Row::spills).count();
        return new int[] {state.rows.size(), states[0], states[1], states[2], states[3],
            state.granted(), state.free(), state.peak, state.steps, state.workDone, state.asked,
            spilling, state.settings[0], state.settings[1], state.settings[2], state.settings[3],
            history.size(), text.length()}[what];
    }

    int spare() {
        return state.spare();
    }
}
