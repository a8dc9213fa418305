/** Promise 11, sentence by sentence. What DEPTH is, is DepthTermTest's. */
public final class DepthTest {
    private static final String PROMISE = "Promise 11: depth";

    public static void main(String[] args) {
        Check.sentence(PROMISE, "The greatest DEPTH of a STATEMENT that is read", DepthTest::theGreatest);
        Check.sentence(PROMISE, "0 when none is", DepthTest::noStatement);
        Check.sentence(PROMISE, "(or nothing)", DepthTest::nothingIsRead);
        Check.end();
    }

    private static void isDeep(String text, int due) {
        Check.same("depth of '" + text + "'", Check.reading(text).depth(), due);
    }

    private static void theGreatest() {
        isDeep("unlike;equal", 0);
        isDeep("{}", 1);
        isDeep("{equal};{equal};{equal}", 1);
        isDeep("{{equal}};{equal};equal", 2);
        isDeep("equal;{equal};{{equal}}", 2);
        isDeep("each row{{unlike};where odd where even equal};{rising}", 4);
        isDeep("{".repeat(39) + "}".repeat(39), 39);
        isDeep("{".repeat(40) + "}".repeat(40), 40);
        isDeep("{".repeat(40) + "equal" + "}".repeat(40) + ";equal", 40);
    }

    private static void noStatement() {
        isDeep("", 0);
        isDeep(" \n", 0);
        Reader reader = Check.reading("{{equal}}");
        reader.clear();
        Check.same("depth behind clear", reader.depth(), 2);
        reader.read();
        Check.same("depth of no text", reader.depth(), 0);
    }

    private static void nothingIsRead() {
        Check.same("depth of a new object", new Reader().depth(), 0);
        Check.same("depth before read", Check.holding("{{equal}}").depth(), 0);
        for (String refused : new String[] {"{{equal}};", "{{equal}", "{".repeat(41) + "}".repeat(41), "each row{?}"}) {
            Reader reader = Check.holding(refused);
            reader.read();
            Check.same("depth of '" + refused + "'", reader.depth(), 0);
        }
        Reader reader = Check.reading("{{equal}}");
        Check.same("depth", reader.depth(), 2);
        reader.unit('}');
        Check.same("depth of what is read", reader.depth(), 2);
        reader.read();
        Check.same("depth behind a refused read", reader.depth(), 0);
    }
}
