/** The sentences under "Texts" of the document's terms that name a boundary, and promises 3, 8 and 9. */
public final class TextEdgesTest {
    private static final Checks CHECKS = new Checks();
    private static final String LONG = "l12x34,b5x200,m200x7";

    public static void main(String[] args) {
        sixtyCharacters();
        emptyAtFirst();
        anyCharacter();
        lengthsThatAreCleared();
        oneOrMoreJoins();
        threeWays();
        numbers();
        endsTooEarly();
        firstFault();
        charactersAllowed();
        sixteenByText();
        oneByOne();
        oneAct();
        CHECKS.end("TextEdgesTest");
    }

    private static void due(String call, long got, long want) {
        CHECKS.due(call, got, want);
    }

    private static void type(JoinGrants pool, String text) {
        for (char character : text.toCharArray()) {
            pool.type(character);
        }
    }

    /** What askAll() answers a new object with a text. */
    private static int askAll(String text) {
        JoinGrants pool = new JoinGrants();
        type(pool, text);
        return pool.askAll();
    }

    private static void dueFault(String text, int fault) {
        due("askAll() of " + text, askAll(text), -100 - fault);
    }

    private static void sixtyCharacters() {
        CHECKS.of("\"There is a text of at most 60 characters\"");
        JoinGrants pool = new JoinGrants();
        for (int length = 1; length <= 60; length++) {
            due("type, number " + length, pool.type(length % 6 == 1 ? 'l' : '1'), length);
            due("count(17)", pool.count(17), length);
        }
        due("type, number 61", pool.type('1'), JoinGrants.FULL);
        due("count(17)", pool.count(17), 60);
        due("type, number 61 once more", pool.type('x'), JoinGrants.FULL);
        due("count(17)", pool.count(17), 60);
        due("clearText()", pool.clearText(), 60);
        due("type, number 1", pool.type('1'), 1);
        String sixty = "l1x1,l1x1,l1x1,l1x1,l1x1,l1x1,l1x1,l1x1,l1x1,l1x1,l1x1,l1x20";
        due("a text of 60", sixty.length(), 60);
        due("its joins", askAll(sixty), 12);
        due("a text of 61, of which 60 are there", askAll(sixty + "x"), 12);
    }

    private static void emptyAtFirst() {
        CHECKS.of("\"empty at first\"");
        due("count(17)", new JoinGrants().count(17), 0);
        due("clearText()", new JoinGrants().clearText(), 0);
        due("askAll()", new JoinGrants().askAll(), -100);
        due("type('l')", new JoinGrants().type('l'), 1);
    }

    private static void anyCharacter() {
        CHECKS.of("\"character: any character\"");
        char[] some = {0, 1, '\n', ' ', '~', 127, 128, 255, 256, 0xd800, 0xdfff, 0xfffe, 0xffff};
        JoinGrants pool = new JoinGrants();
        for (int i = 0; i < some.length; i++) {
            due("type((char) " + (int) some[i] + ")", pool.type(some[i]), i + 1);
            dueFault("" + some[i], 0);
        }
    }

    private static void lengthsThatAreCleared() {
        CHECKS.of("\"Empties the text. Returns the length that it had.\"");
        for (int length : new int[] {0, 1, 59, 60, 61}) {
            JoinGrants pool = new JoinGrants();
            for (int i = 0; i < length; i++) {
                pool.type('l');
            }
            due("clearText() of " + length, pool.clearText(), Math.min(60, length));
            due("count(17)", pool.count(17), 0);
            due("clearText() again", pool.clearText(), 0);
            due("askAll()", pool.askAll(), -100);
            due("no act", pool.count(16), 0);
        }
    }

    private static void oneOrMoreJoins() {
        CHECKS.of("\"A text of joins is one or more joins with ',' between two\"");
        dueFault("", 0);
        due("one", askAll("l1x1"), 1);
        due("two", askAll("l1x1,b1x1"), 2);
        dueFault(",", 0);
        dueFault(",l1x1", 0);
        dueFault("l1x1,", 5);
        dueFault("l1x1,,b1x1", 5);
        dueFault("l1x1b1x1", 4);
        dueFault("l1x1 ,b1x1", 4);
        dueFault("l1x1, b1x1", 5);
        StringBuilder text = new StringBuilder("l1x1");
        for (int joins = 1; joins <= 12; joins++) {
            due(joins + " joins", askAll(text.toString()), joins);
            dueFault(text + ",", text.length() + 1);
            text.append(",l1x1");
        }
    }

    private static void threeWays() {
        CHECKS.of("\"'l', 'b' or 'm' for the ways\"");
        for (int way = 0; way <= 2; way++) {
            JoinGrants pool = new JoinGrants();
            type(pool, "lbm".charAt(way) + "2x3");
            due("askAll()", pool.askAll(), 1);
            CHECKS.dueOfJoin(pool, 0, way, 2, 3);
        }
        for (char wrong : "LBMacknx1,0".toCharArray()) {
            dueFault(wrong + "2x3", 0);
            dueFault("l1x1," + wrong + "2x3", 5);
        }
    }

    /** Checks a number at both of its places; fault is the index in it that is wrong, or -1. */
    private static void dueNumber(String number, int fault) {
        String[] texts = {"l" + number + "x1", "l1x" + number, "b9x9,m" + number + "x1", "b9x9,m1x" + number,
            "l1x" + number + ",l1x1"};
        int[] starts = {1, 3, 6, 8, 3};
        int[] joins = {1, 1, 2, 2, 2};
        for (int i = 0; i < texts.length; i++) {
            due("askAll() of " + texts[i], askAll(texts[i]), fault < 0 ? joins[i] : -100 - starts[i] - fault);
        }
    }

    private static void numbers() {
        CHECKS.of("\"a number (1 to 200)\"");
        for (int number = 1; number <= 200; number++) {
            JoinGrants pool = new JoinGrants();
            type(pool, "b" + number + "x" + (201 - number));
            due("askAll()", pool.askAll(), 1);
            CHECKS.dueOfJoin(pool, 0, 1, number, 201 - number);
        }
        dueNumber("1", -1);
        dueNumber("200", -1);
        dueNumber("-1", 0);
        dueNumber("+1", 0);
        dueNumber("", 0);
        CHECKS.of("\"Numbers have no zero in front\"");
        dueNumber("0", 0);
        dueNumber("00", 0);
        dueNumber("01", 0);
        dueNumber("0200", 0);
        dueNumber("10", -1);
        dueNumber("100", -1);
        CHECKS.of("\"a digit by which a number would be greater than 200 is not allowed\"");
        for (int digit = 0; digit <= 9; digit++) {
            dueNumber("20" + digit, digit == 0 ? -1 : 2);
            dueNumber("19" + digit, -1);
            dueNumber("21" + digit, 2);
            dueNumber("99" + digit, 2);
            dueNumber("200" + digit, 3);
            dueNumber("100" + digit, 3);
        }
    }

    private static void endsTooEarly() {
        CHECKS.of("\"or the length of the text if it ends too early (the empty text does)\"");
        int[] joins = new int[LONG.length() + 1];
        joins[5] = 1;
        joins[6] = 1;
        joins[11] = 2;
        joins[12] = 2;
        joins[13] = 2;
        joins[20] = 3;
        for (int length = 0; length <= LONG.length(); length++) {
            String text = LONG.substring(0, length);
            due("askAll() of " + text, askAll(text), joins[length] > 0 ? joins[length] : -100 - length);
        }
        String sixty = "l1x1,l1x1,l1x1,l1x1,l1x1,l1x1,l1x1,l1x1,l1x1,l1x1,l1x1,l1x1,";
        due("a text of 60", sixty.length(), 60);
        dueFault(sixty, 60);
    }

    private static void firstFault() {
        CHECKS.of("\"the index, from 0, of the first character that is not allowed at its place\"");
        for (int index = 0; index < LONG.length(); index++) {
            for (char wrong : new char[] {'?', 0, 0xffff}) {
                dueFault(LONG.substring(0, index) + wrong + LONG.substring(index + 1), index);
                dueFault(LONG.substring(0, index) + wrong, index);
                dueFault(LONG.substring(0, index) + wrong + "?" + LONG, index);
            }
        }
        dueFault(LONG + "?", LONG.length());
        dueFault("l200x200,l200x200,l200x200,l200x200,l200x200,l200x200,l200x?", 59);
    }

    /** Checks of each character whether it is allowed behind a text, whatever comes then. */
    private static void dueAllowed(String text, String allowed) {
        for (int code = 0; code <= 65535; code += code < 700 ? 1 : 101) {
            char character = (char) code;
            int answer = askAll(text + character);
            boolean found = answer > 0 || answer == -100 - text.length() - 1;
            String call = "behind " + text + " the character " + code;
            due(call, found ? 1 : 0, allowed.indexOf(character) >= 0 ? 1 : 0);
            due(call + " in askAll()", found || answer == -100 - text.length() ? 1 : 0, 1);
        }
    }

    private static void charactersAllowed() {
        CHECKS.of("\"not allowed at its place\"");
        dueAllowed("", "lbm");
        dueAllowed("l1x1,", "lbm");
        dueAllowed("b", "123456789");
        dueAllowed("b1", "0123456789x");
        dueAllowed("b2", "0123456789x");
        dueAllowed("b19", "0123456789x");
        dueAllowed("b20", "0x");
        dueAllowed("b21", "x");
        dueAllowed("b100", "x");
        dueAllowed("b200", "x");
        dueAllowed("m3x", "123456789");
        dueAllowed("m3x1", "0123456789,");
        dueAllowed("m3x19", "0123456789,");
        dueAllowed("m3x20", "0,");
        dueAllowed("m3x21", ",");
        dueAllowed("m3x200", ",");
    }

    private static JoinGrants withJoins(int joins) {
        JoinGrants pool = new JoinGrants();
        for (int i = 0; i < joins; i++) {
            pool.ask(0, 1, 1);
        }
        return pool;
    }

    private static void sixteenByText() {
        CHECKS.of("\"FULL if there would have been more than 16\"");
        StringBuilder text = new StringBuilder("l1x1");
        for (int joins = 1; joins <= 12; joins++) {
            JoinGrants pool = withJoins(16 - joins);
            type(pool, text.toString());
            due("askAll(), 16 with those of the text", pool.askAll(), joins);
            due("count(0)", pool.count(0), 16);
            due("askAll() once more", pool.askAll(), JoinGrants.FULL);
            pool = withJoins(17 - joins);
            int history = pool.count(16);
            type(pool, text.toString());
            due("askAll(), 17 with those of the text", pool.askAll(), JoinGrants.FULL);
            CHECKS.of("\"all of them, or none\"");
            due("count(0)", pool.count(0), 17 - joins);
            due("count(16)", pool.count(16), history);
            text.append(",l1x1");
        }
        CHECKS.of("\"-100 minus the fault of the text if it has one\", ahead of FULL");
        JoinGrants pool = withJoins(16);
        due("askAll(), no text", pool.askAll(), -100);
        type(pool, "l1x1,l1x1,");
        due("askAll(), a fault", pool.askAll(), -110);
        type(pool, "l1x1");
        due("askAll(), none", pool.askAll(), JoinGrants.FULL);
        for (int i = 0; i < 16; i++) {
            pool.cancel(i);
        }
        due("askAll(), all are cancelled", pool.askAll(), JoinGrants.FULL);
    }

    private static void oneByOne() {
        CHECKS.of("\"one after the other (the queue is gone through behind each)\"");
        JoinGrants pool = new JoinGrants();
        pool.set(0, 20);
        pool.set(1, 1);
        type(pool, "b1x200,l1x1");
        due("askAll()", pool.askAll(), 2);
        due("join(0, 6), all, as the other was not there", pool.join(0, 6), 20);
        due("join(1, 3)", pool.join(1, 3), 0);
        pool = new JoinGrants();
        pool.set(0, 20);
        pool.set(2, 1);
        type(pool, "l1x18,l1x2,b1x200");
        due("askAll()", pool.askAll(), 3);
        due("join(0, 6), 3 were asked back", pool.join(0, 6), 17);
        due("join(2, 3), 16 needed of 14", pool.join(2, 3), 0);
    }

    private static void oneAct() {
        CHECKS.of("\"The joins of the text, which stays\"");
        JoinGrants pool = new JoinGrants();
        type(pool, LONG);
        due("askAll()", pool.askAll(), 3);
        due("count(17)", pool.count(17), LONG.length());
        due("askAll() again", pool.askAll(), 3);
        CHECKS.dueOfJoin(pool, 0, 0, 12, 34);
        CHECKS.dueOfJoin(pool, 4, 1, 5, 200);
        CHECKS.dueOfJoin(pool, 5, 2, 200, 7);
        CHECKS.of("\"This is one act.\"");
        due("count(16)", pool.count(16), 2);
        due("undo()", pool.undo(), 1);
        due("count(0)", pool.count(0), 3);
        due("undo()", pool.undo(), 0);
        due("count(0)", pool.count(0), 0);
        due("count(17)", pool.count(17), LONG.length());
    }
}
