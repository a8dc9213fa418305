/**
 * The sentences on a text of 2,000 bytes. No object comes to such a text with 512 calls, behind which
 * the document leaves all answers free; this class keeps to these sentences there all the same.
 */
public final class FullTextTest {
    private static final String TEXT = "Terms: THE TEXT";
    private static final String UNIT = "Promise 2: unit";
    private static final int MOST = 2000;

    public static void main(String[] args) {
        Check.sentence(TEXT, "THE TEXT is a row of bytes that unit() gives, at most 2,000",
                FullTextTest::textsOfTwoThousandBytes);
        Check.sentence(UNIT, "false, doing nothing, when it is not 0 .. 255, or there are 2,000",
                FullTextTest::noByteBehindTwoThousand);
        Check.sentence("Promise 12: clear", "The text is gone", FullTextTest::fullOnceMore);
        Check.sentence("Promise 10: write", "all its tokens in order, a blank between two of them",
                FullTextTest::mostTokens);
        Check.sentence("Promise 3: read", "how many RULES", FullTextTest::mostRules);
        Check.end();
    }

    private static RuleReader holding(String text) {
        RuleReader reader = new RuleReader();
        for (int i = 0; i < text.length(); i++) {
            Check.same("unit number " + i, reader.unit(text.charAt(i)), true);
        }
        return reader;
    }

    private static void textsOfTwoThousandBytes() {
        for (int size : new int[] {MOST - 1, MOST}) {
            Check.same("read of blanks", holding(" ".repeat(size)).read(), 0);
            Check.same("a RULE at the end", holding(" ".repeat(size - 5) + "equal").read(), 1);
            Check.same("line of it", lineOfOne(" ".repeat(size - 5) + "equal"), size - 5);
            Check.same("refused at the last byte", holding(" ".repeat(size - 1) + "?").read(), -size);
            Check.same("refused at THE END", holding(" ".repeat(size - 4) + "each").read(), -1 - size);
            Check.same("refused at THE END", holding("each" + " ".repeat(size - 4)).read(), -1 - size);
            Check.same("one word", holding("a".repeat(size)).read(), -1);
            Check.same("one number", holding("sum=" + "0".repeat(size - 4)).read(), -5);
        }
    }

    private static int lineOfOne(String text) {
        RuleReader reader = holding(text);
        reader.read();
        return reader.line(0);
    }

    private static void noByteBehindTwoThousand() {
        RuleReader reader = holding(" ".repeat(MOST - 6) + "equal");
        Check.same("byte number 2,000", reader.unit(';'), true);
        for (int u : new int[] {'e', ' ', '?', 0, 255, -1, 256}) {
            Check.same("unit(" + u + ") behind them", reader.unit(u), false);
        }
        Check.same("read", reader.read(), -1 - MOST);
        Check.same("unit behind read", reader.unit(' '), false);
        Check.same("read again", reader.read(), -1 - MOST);
    }

    private static void fullOnceMore() {
        RuleReader reader = holding("?".repeat(MOST));
        reader.clear();
        for (int i = 0; i < MOST; i++) {
            Check.same("unit number " + i + " behind clear", reader.unit(' '), true);
        }
        Check.same("one more", reader.unit(' '), false);
        Check.same("read", reader.read(), 0);
    }

    private static void mostTokens() {
        RuleReader reader = holding("{};".repeat(666) + "{}");
        Check.same("read of 2,000 tokens", reader.read(), 0);
        StringBuilder printed = new StringBuilder();
        for (int i = 0; i < 2 * MOST - 1; i++) {
            printed.append((char) reader.write(i));
        }
        Check.same("print of 2,000 tokens", printed.toString(), "{ } ; ".repeat(666) + "{ }");
        Check.same("the byte behind it", reader.write(2 * MOST - 1), -1);
    }

    private static void mostRules() {
        RuleReader reader = holding("equal;".repeat(332) + "given 7");
        Check.same("read", reader.read(), 333);
        Check.same("line(332)", reader.line(332), 1992);
        Check.same("given(7)", reader.given(7), 1);
        Check.throwing("line(333)", IndexOutOfBoundsException.class, () -> reader.line(333));
        Check.same("rows", reader.rows(1, 1), 333);
        Check.same("row(332, 0)", reader.row(332, 0), 332);
    }
}
