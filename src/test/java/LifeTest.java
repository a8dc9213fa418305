/** The document's first section: an object answers as promised up to its 512th call. */
public final class LifeTest {
    private static final int LAST = 512;

    public static void main(String[] args) {
        Check.sentence("What it is", "An object is used for at most 512 calls after it has been made",
                LifeTest::theLastCall);
        Check.end();
    }

    /** An object behind that many calls less some, all but the last ones of which gave the text. */
    private static RuleReader holding(String text, int left) {
        RuleReader reader = new RuleReader();
        for (int i = 0; i < LAST - left - text.length(); i++) {
            Check.same("unit of a blank", reader.unit(' '), true);
        }
        for (char b : text.toCharArray()) {
            Check.same("unit", reader.unit(b), true);
        }
        return reader;
    }

    private static RuleReader reading(String text, int left) {
        RuleReader reader = holding(text, left + 1);
        Check.same("read", reader.read(), 1);
        return reader;
    }

    private static RuleReader unrolling(String text) {
        RuleReader reader = reading(text, 2);
        Check.same("rows", reader.rows(2, 2), 1);
        return reader;
    }

    private static void theLastCall() {
        String text = "where odd given 4";
        Check.same("unit, the last call", holding("", 1).unit(255), true);
        Check.same("a wrong unit, the last call", holding("", 1).unit(256), false);
        Check.same("read, the last call", holding("equal", 1).read(), 1);
        Check.same("a refused read, the last call", holding("equal;", 1).read(), -1 - (LAST - 1));
        Check.same("rows, the last call", reading(text, 1).rows(2, 2), 1);
        Check.throwing("wrong rows, the last call", IllegalArgumentException.class,
                () -> reading(text, 1).rows(0, 2));
        Check.throwing("rows of nothing, the last call", IllegalStateException.class,
                () -> holding(text, 1).rows(2, 2));
        Check.same("row, the last call", unrolling(text).row(0, 3), 4);
        Check.same("place, the last call", unrolling(text).place(0, 1), 2);
        Check.throwing("no place, the last call", IndexOutOfBoundsException.class,
                () -> unrolling(text).place(0, 2));
        Check.same("free, the last call", unrolling(text).free(1), 3);
        Check.same("given, the last call", reading(text, 1).given(4), 1);
        Check.same("line, the last call", reading("equal", 1).line(0), LAST - 7);
        Check.same("write, the last call", reading(text, 1).write(16), '4');
        Check.same("depth, the last call", reading(text, 1).depth(), 1);
    }
}
