/** Promises 3, 8 and 9: the text, and the places of its faults. */
public final class TextsTest {
    private static final Checks CHECKS = new Checks();

    public static void main(String[] args) {
        typing();
        clearing();
        faults();
        noFaults();
        CHECKS.end("TextsTest");
    }

    private static int askAll(JoinGrants pool, String text) {
        pool.clearText();
        for (char character : text.toCharArray()) {
            pool.type(character);
        }
        return pool.askAll();
    }

    private static void typing() {
        CHECKS.of("promise 8");
        JoinGrants pool = new JoinGrants();
        char[] some = {'l', ' ', 0, 255, 256, 65535, '\n'};
        for (int i = 0; i < 60; i++) {
            CHECKS.due("type", pool.type(some[i % some.length]), i + 1);
        }
        CHECKS.due("type, 60 are there", pool.type('l'), JoinGrants.FULL);
        CHECKS.due("type, 60 are there", pool.type('\uffff'), JoinGrants.FULL);
        CHECKS.due("count(17)", pool.count(17), 60);
        CHECKS.due("it is no act", pool.count(16), 0);
        pool.set(0, 50);
        pool.clearText();
        pool.type('l');
        pool.undo();
        CHECKS.due("undo leaves the text", pool.count(17), 1);
        pool.keep();
        pool.type('1');
        pool.restore();
        CHECKS.due("restore leaves the text", pool.count(17), 2);
    }

    private static void clearing() {
        CHECKS.of("promise 9");
        JoinGrants pool = new JoinGrants();
        CHECKS.due("clearText()", pool.clearText(), 0);
        pool.type('l');
        pool.type('1');
        CHECKS.due("clearText()", pool.clearText(), 2);
        CHECKS.due("clearText()", pool.clearText(), 0);
        CHECKS.due("count(17)", pool.count(17), 0);
        CHECKS.due("it is no act", pool.count(16), 0);
        CHECKS.due("askAll()", pool.askAll(), -100);
        CHECKS.due("type('b')", pool.type('b'), 1);
        CHECKS.due("askAll()", pool.askAll(), -101);
    }

    private static void faults() {
        CHECKS.of("promise 3, faults");
        String[] texts = {"", "l", "l0", "l1", "l1x", "l1x0", "l1x01", "l1x1,", "l1x1,,", "l201x1",
            "l2000x1", "l1x201", "l1x2000", "a", "L1x1", " l1x1", "l1x1 ", "l1x1x1", "l1x1l1x1",
            "l1,1", "1x1", "l01x1", "l999x1", "l210x1", "lx1", "l1xx1", "ll1x1", "l1X1", "l-1x1",
            "l1x1,l", "l1x1,b2x3,m", "l1x1,b2x3,m4x", "l200x200,b0x1", ",l1x1", "l1x\u00b2",
            "\u016c1x1", "l1x1\u0000", "l1x\u0661", "l1x/", "l1x:", "l1x1;b1x1",
            "l1x1,l1x1,l1x1,l1x1,l1x1,l1x1,l1x1,l1x1,l1x1,l1x1,l1x1,l1x1,"};
        int[] faults = {0, 1, 1, 2, 3, 3, 3, 5, 5, 3,
            4, 5, 6, 0, 0, 0, 4, 4, 4,
            2, 0, 1, 3, 3, 1, 3, 1, 2, 1,
            6, 11, 13, 10, 0, 3,
            0, 4, 3, 3, 3, 4,
            60};
        JoinGrants pool = new JoinGrants();
        for (int i = 0; i < texts.length; i++) {
            CHECKS.due("askAll() of " + texts[i], askAll(pool, texts[i]), -100 - faults[i]);
        }
        CHECKS.due("count(0)", pool.count(0), 0);
        CHECKS.due("count(16)", pool.count(16), 0);
    }

    private static void noFaults() {
        CHECKS.of("promise 3, texts");
        JoinGrants pool = new JoinGrants();
        CHECKS.due("askAll()", askAll(pool, "l200x199,b190x10,m20x9"), 3);
        int[][] rows = {{0, 200, 199}, {1, 190, 10}, {2, 20, 9}};
        for (int join = 0; join < rows.length; join++) {
            CHECKS.dueOfJoin(pool, join, rows[join]);
        }
        CHECKS.due("askAll() behind a text with a fault", askAll(pool, "b1x1,b2x2,x"), -110);
        CHECKS.due("askAll()", askAll(pool, "m1x2"), 1);
        CHECKS.dueOfJoin(pool, 3, 2, 1, 2);
        CHECKS.due("count(0)", pool.count(0), 4);
        CHECKS.due("askAll() again", pool.askAll(), 1);
        CHECKS.dueOfJoin(pool, 4, 2, 1, 2);
    }
}
