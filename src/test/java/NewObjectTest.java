/** Promise 1, sentence by sentence. */
public final class NewObjectTest {
    private static final String PROMISE = "Promise 1: A new object";

    public static void main(String[] args) {
        Check.sentence(PROMISE, "No text", NewObjectTest::noText);
        Check.sentence(PROMISE, "nothing read", NewObjectTest::nothingRead);
        Check.end();
    }

    private static void noText() {
        Check.same("read of no text", new Reader().read(), 0);
        Reader reader = new Reader();
        reader.unit('?');
        Check.same("the first byte's place is 0", reader.read(), -1);
        Reader other = Check.holding("equal;");
        Reader fresh = Check.holding("rising");
        Check.same("another object's text is not this one's", fresh.read(), 1);
        Check.same("and the other way round", other.read(), -7);
    }

    private static void nothingRead() {
        Check.nothingIsRead("of a new object", new Reader());
        Check.nothingIsRead("of a text that is not read", Check.holding("{given 1}"));
        Reader other = Check.reading("{given 1}");
        other.rows(2, 2);
        Check.nothingIsRead("when another object has read", new Reader());
    }
}
