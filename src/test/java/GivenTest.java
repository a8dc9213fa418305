/** Promise 8, sentence by sentence. */
public final class GivenTest {
    private static final String PROMISE = "Promise 8: given";
    private static final String TEXT = "given 4;each row{given 4;given 0};where odd given 9;given 004;"
            + "sum = 4;count 4 = 4;equal;each window 4 unlike";

    public static void main(String[] args) {
        Check.sentence(PROMISE, "How many RULES are given with that number", GivenTest::howMany);
        Check.sentence(PROMISE, "How many RULES are given with that number", GivenTest::otherNumbers);
        Check.sentence(PROMISE, "0 when nothing is read", GivenTest::nothingIsRead);
        Check.end();
    }

    private static void howMany() {
        Reader reader = Check.reading(TEXT);
        int[] due = {1, 0, 0, 0, 3, 0, 0, 0, 0, 1};
        for (int kind = 0; kind < due.length; kind++) {
            Check.same("given(" + kind + ")", reader.given(kind), due[kind]);
        }
        reader.rows(3, 3);
        Check.same("given(4), not how many rows", reader.given(4), 3);
        for (int kind = 0; kind <= 9; kind++) {
            Reader each = Check.reading("given " + kind);
            for (int other = 0; other <= 9; other++) {
                Check.same("given(" + other + ") of given " + kind, each.given(other), kind == other ? 1 : 0);
            }
        }
        // 63 RULES are 503 bytes.
        Check.same("given(7) of 63", Check.reading(Check.times("given 7", 63)).given(7), 63);
        Check.same("given(0) of no RULE", Check.reading("").given(0), 0);
    }

    /** -1 is no number of a RULE, though row() tells it of a RULE that has none. */
    private static void otherNumbers() {
        Reader reader = Check.reading(TEXT + ";sum=10;count 10=10");
        Check.answersOutside("given", 0, 10, reader::given);
    }

    private static void nothingIsRead() {
        Reader reader = Check.holding(TEXT);
        for (int kind = -1; kind <= 10; kind++) {
            Check.same("given(" + kind + "), not read", reader.given(kind), 0);
        }
        reader.read();
        Check.same("given(4)", reader.given(4), 3);
        reader.unit(';');
        Check.same("given(4) of what is read", reader.given(4), 3);
        reader.read();
        for (int kind = -1; kind <= 10; kind++) {
            Check.same("given(" + kind + ") of a refused text", reader.given(kind), 0);
        }
    }
}
