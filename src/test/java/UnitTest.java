/** Promise 2, sentence by sentence, but for a full text: that is FullTextTest's. */
public final class UnitTest {
    private static final String PROMISE = "Promise 2: unit";

    public static void main(String[] args) {
        Check.sentence(PROMISE, "A byte comes behind the text: true", UnitTest::everyByteIsTaken);
        Check.sentence(PROMISE, "A byte comes behind the text: true", UnitTest::bytesComeBehindTheText);
        Check.sentence(PROMISE, "false, doing nothing, when it is not 0 .. 255", UnitTest::otherNumbersAreNotTaken);
        Check.sentence(PROMISE, "false, doing nothing, when it is not 0 .. 255", UnitTest::otherNumbersDoNothing);
        Check.end();
    }

    private static void everyByteIsTaken() {
        for (int u = 0; u <= 255; u++) {
            Reader reader = Check.holding("{");
            Check.same("unit(" + u + ")", reader.unit(u), true);
            Check.feed(reader, "   ");
            // A blank, a line end and { are refused at THE END, all others where they stand.
            int place = u == '}' ? -1 : u == ' ' || u == '\n' || u == '{' ? 5 : 1;
            Check.same("read behind unit(" + u + ")", reader.read(), -1 - place);
        }
    }

    private static void bytesComeBehindTheText() {
        Reader reader = Check.reading("sum=1");
        Check.feed(reader, "2;equal");
        Check.same("what is read stays", Check.printed(reader), "sum = 1");
        Check.same("read anew", reader.read(), 2);
        Check.same("printed anew", Check.printed(reader), "sum = 12 ; equal");
        reader.unit(';');
        Check.same("read of a refused text", reader.read(), -14);
        Check.feed(reader, "rising");
        Check.same("read of what it has become", reader.read(), 3);
    }

    private static final int[] OTHERS = {-1, -2, -128, -256, 256, 257, 511, 256 + 'x', 65536 + ' ',
        Integer.MIN_VALUE, Integer.MIN_VALUE + 'x', Integer.MAX_VALUE};

    private static void otherNumbersAreNotTaken() {
        for (int u : OTHERS) {
            Check.same("unit(" + u + ") of a new object", new Reader().unit(u), false);
            Check.same("unit(" + u + ")", Check.holding("equal").unit(u), false);
        }
        Check.same("unit(0)", new Reader().unit(0), true);
        Check.same("unit(255)", new Reader().unit(255), true);
    }

    private static void otherNumbersDoNothing() {
        Reader reader = new Reader();
        for (int b : "where odd equal".toCharArray()) {
            for (int u : OTHERS) {
                reader.unit(u);
            }
            reader.unit(b);
        }
        Check.same("read", reader.read(), 1);
        Check.same("line(0)", reader.line(0), 10);
        reader.rows(2, 2);
        reader.unit(-1);
        reader.unit(256);
        Check.same("rows stay", Check.places(reader), "1,2");
        Check.same("read again", reader.read(), 1);
    }
}
