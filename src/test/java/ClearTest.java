/** Promise 12, sentence by sentence. */
public final class ClearTest {
    private static final String PROMISE = "Promise 12: clear";

    public static void main(String[] args) {
        Check.sentence(PROMISE, "The text is gone", ClearTest::theTextIsGone);
        Check.sentence(PROMISE, "(what is read stays)", ClearTest::whatIsReadStays);
        Check.sentence(PROMISE, "(what is read stays)", ClearTest::nothingReadStaysSo);
        Check.end();
    }

    private static void theTextIsGone() {
        Reader reader = new Reader();
        reader.clear();
        Check.same("read of no text", reader.read(), 0);
        Check.feed(reader, "nonsense");
        reader.clear();
        Check.same("read behind clear", reader.read(), 0);
        reader.unit('?');
        Check.same("the next byte's place is 0", reader.read(), -1);
        reader.clear();
        reader.clear();
        Check.feed(reader, "equal");
        Check.same("read of another text", reader.read(), 1);
        Check.same("line(0)", reader.line(0), 0);
        reader.clear();
        Check.feed(reader, "e");
        Check.same("read of a shorter text", reader.read(), -1);
        reader.clear();
        Check.feed(reader, "each");
        Check.same("THE END of a shorter text", reader.read(), -5);
    }

    private static void whatIsReadStays() {
        Reader reader = Check.reading("where odd {given 3}");
        reader.clear();
        stays(reader);
        Check.same("rows", reader.rows(2, 2), 1);
        reader.clear();
        stays(reader);
        Check.same("the rows stay too", Check.places(reader), "1,2");
        Check.same("row(0, 1)", reader.row(0, 1), 6);
        Check.same("free(1)", reader.free(1), 3);
        Check.feed(reader, "equal;");
        stays(reader);
        Check.same("rows of what is read", reader.rows(2, 2), 1);
        Check.same("read of the new text", reader.read(), -7);
    }

    private static void stays(Reader reader) {
        Check.same("given(3)", reader.given(3), 1);
        Check.same("line(0)", reader.line(0), 11);
        Check.same("print", Check.printed(reader), "where odd { given 3 }");
        Check.same("depth", reader.depth(), 2);
    }

    private static void nothingReadStaysSo() {
        Reader reader = new Reader();
        reader.clear();
        Check.nothingIsRead("behind clear of a new object", reader);
        Check.feed(reader, "{equal}");
        reader.clear();
        Check.nothingIsRead("behind clear of a text", reader);
        Check.feed(reader, "equal;");
        reader.read();
        reader.clear();
        Check.nothingIsRead("behind clear of a refused text", reader);
    }
}
