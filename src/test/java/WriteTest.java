/** Promise 10, sentence by sentence. */
public final class WriteTest {
    private static final String PROMISE = "Promise 10: write";

    public static void main(String[] args) {
        Check.sentence(PROMISE, "Byte i of what is read", WriteTest::ofWhatIsRead);
        Check.sentence(PROMISE, "all its tokens in order, a blank between two of them", WriteTest::blanksBetween);
        Check.sentence(PROMISE, "all its tokens in order, a blank between two of them", WriteTest::allTokens);
        Check.sentence(PROMISE, "-1 when there is none", WriteTest::noSuchByte);
        Check.end();
    }

    private static void prints(String text, String due) {
        Reader reader = Check.reading(text);
        Check.same("print of '" + text + "'", Check.printed(reader), due);
        Check.answersOutside("write behind '" + due + "'", -1, due.length(), reader::write);
    }

    private static void ofWhatIsRead() {
        Reader reader = Check.holding("equal");
        Check.same("write(0) before read", reader.write(0), -1);
        reader.read();
        Check.feed(reader, ";rising");
        Check.same("print of what is read", Check.printed(reader), "equal");
        reader.rows(1, 1);
        Check.same("print behind rows", Check.printed(reader), "equal");
        reader.clear();
        Check.same("print behind clear", Check.printed(reader), "equal");
        Check.feed(reader, "{}");
        reader.read();
        Check.same("print of a shorter text", Check.printed(reader), "{ }");
    }

    private static void blanksBetween() {
        prints("", "");
        prints(" \n", "");
        prints("equal", "equal");
        prints("  equal\n ", "equal");
        prints("{}", "{ }");
        prints("{ \n }", "{ }");
        prints("\n each  row\n\nunlike ", "each row unlike");
        prints("each\nrow\nunlike", "each row unlike");
        prints("sum=1;sum<2;sum>3", "sum = 1 ; sum < 2 ; sum > 3");
        prints("{};".repeat(80) + "{}", "{ } ; ".repeat(80) + "{ }");
    }

    private static void allTokens() {
        String words = "each row each column each block 16 16 each cell each pair each window 256 each side "
                + "each corner each diagonal each anti where odd where even where border where inner ";
        for (String rule : new String[] {"unlike", "equal", "rising", "falling", "sum = 0", "sum < 999999",
            "count 0 > 999999", "given 9"}) {
            prints(words + rule, words + rule);
        }
        // A number's bytes are those of its token, its noughts too.
        prints("each block 02 000001{sum=007;count 00<0};given 000005",
                "each block 02 000001 { sum = 007 ; count 00 < 0 } ; given 000005");
    }

    private static void noSuchByte() {
        Reader reader = new Reader();
        Check.answersOutside("write of a new object", -1, 0, reader::write);
        Check.feed(reader, "equal");
        Check.answersOutside("write of a text", -1, 0, reader::write);
        reader.read();
        Check.same("write(0)", reader.write(0), 'e');
        Check.same("write(4)", reader.write(4), 'l');
        Check.answersOutside("write of five bytes", -1, 5, reader::write);
        Check.same("write(3999)", reader.write(3999), -1);
        Check.same("write(4000)", reader.write(4000), -1);
        Check.feed(reader, " rising");
        reader.read();
        Check.answersOutside("write of a refused text", -1, 0, reader::write);
    }
}
