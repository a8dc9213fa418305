/** Promise 3, sentence by sentence. What is refused, and where, is the tests' of the terms. */
public final class ReadTest {
    private static final String PROMISE = "Promise 3: read";

    public static void main(String[] args) {
        Check.sentence(PROMISE, "how many RULES", ReadTest::howManyRules);
        Check.sentence(PROMISE, "or -1 less the place where it is REFUSED", ReadTest::minusOneLessThePlace);
        Check.sentence(PROMISE, "(nothing is read then)", ReadTest::nothingIsReadThen);
        Check.sentence(PROMISE, "(nothing is read then)", ReadTest::nothingIsLeftForTheNextRead);
        Check.sentence(PROMISE, "Rows that were unrolled are gone", ReadTest::rowsAreGone);
        Check.sentence(PROMISE, "The text is read", ReadTest::theTextStays);
        Check.end();
    }

    private static void howManyRules() {
        Check.reads("", 0);
        Check.reads("{}", 0);
        Check.reads("each row{};where odd{}", 0);
        Check.reads("equal", 1);
        Check.reads("each row equal", 1);
        Check.reads("each row{equal;where odd{rising;falling};equal};equal", 5);
        Check.reads("unlike;equal;rising;falling;sum=1;count 1<2;given 3", 7);
        // 84 RULES are 503 bytes.
        Check.reads(Check.times("equal", 84), 84);
    }

    private static void minusOneLessThePlace() {
        Check.same("refused at 0", Check.holding("?").read(), -1);
        Check.same("refused at 1", Check.holding(" ?").read(), -2);
        Check.same("refused at 5", Check.holding("equal?").read(), -6);
        Check.same("refused at 500", Check.holding(" ".repeat(500) + "?").read(), -501);
        Check.same("refused at THE END", Check.holding("each").read(), -5);
        Check.same("refused at THE END, 504", Check.holding(Check.times("equal", 84) + ";").read(), -505);
    }

    private static void nothingIsReadThen() {
        Reader never = Check.holding("{given 4};?");
        Check.same("read of a wrong text", never.read(), -11);
        Check.nothingIsRead("behind the first read, refused", never);
        Reader reader = Check.reading("each row {given 4}");
        reader.rows(2, 2);
        reader.unit('?');
        Check.same("read of a wrong text", reader.read(), -19);
        Check.nothingIsRead("behind a refused read", reader);
        Check.same("read again", reader.read(), -19);
        reader.clear();
        Check.same("read of no text", reader.read(), 0);
        Check.same("something is read again", reader.rows(2, 2), 0);
    }

    /** Wherever the text before is refused, the next one is read as by a new object. */
    private static void nothingIsLeftForTheNextRead() {
        String[] refused = {"?", "{given 4;{given 4;?", "equal 5", "given 10", "given5", "sum=1234567", "each",
            "each block 1", "count 3<", "equal;", "{".repeat(41), "{".repeat(40), "each row ".repeat(20)};
        for (String before : refused) {
            Reader reader = Check.holding(before);
            String of = " behind '" + before + "'";
            Check.same("refused" + of, reader.read() < 0, true);
            reader.clear();
            Check.feed(reader, "given 3;{}");
            Check.same("read" + of, reader.read(), 1);
            Check.same("print" + of, Check.printed(reader), "given 3 ; { }");
            Check.same("depth" + of, reader.depth(), 1);
            Check.same("given(3)" + of, reader.given(3), 1);
            Check.same("given(4)" + of, reader.given(4), 0);
            Check.same("line(0)" + of, reader.line(0), 0);
            Check.outside("line" + of, 1, reader::line);
            Check.same("rows" + of, reader.rows(2, 1), 1);
            Check.same("places" + of, Check.places(reader), "0,1");
            reader.clear();
            Check.feed(reader, "{".repeat(40) + "}".repeat(40));
            Check.same("read of the deepest text" + of, reader.read(), 0);
            Check.same("depth of the deepest text" + of, reader.depth(), 40);
        }
    }

    private static void rowsAreGone() {
        Reader reader = Check.reading("where odd {given 4}");
        Check.same("rows", reader.rows(2, 2), 1);
        Check.same("free(0)", reader.free(0), 0);
        Check.same("read of the same text", reader.read(), 1);
        Check.nothingIsUnrolled("behind the same read", reader);
        Check.same("rows again", reader.rows(2, 2), 1);
        Check.same("places", Check.places(reader), "1,2");
        Check.feed(reader, ";equal");
        Check.same("rows stay until read", Check.places(reader), "1,2");
        Check.same("read of more", reader.read(), 2);
        Check.nothingIsUnrolled("behind another read", reader);
        Check.same("rows of more", reader.rows(2, 2), 2);
        reader.unit(';');
        Check.same("refused", reader.read(), -27);
        Check.nothingIsUnrolled("behind a refused read", reader);
    }

    private static void theTextStays() {
        Reader reader = Check.holding("equal;rising");
        for (int i = 0; i < 3; i++) {
            Check.same("read number " + i, reader.read(), 2);
        }
        Check.feed(reader, " ;");
        for (int i = 0; i < 3; i++) {
            Check.same("refused read number " + i, reader.read(), -15);
        }
        Check.feed(reader, "falling");
        Check.same("read of all", reader.read(), 3);
        Check.same("line(2)", reader.line(2), 14);
    }
}
