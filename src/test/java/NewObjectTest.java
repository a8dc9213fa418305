/** Promise 1: no text; nothing read. */
public final class NewObjectTest {
    public static void main(String[] args) {
        RuleReader reader = new RuleReader();
        Check.same("depth", reader.depth(), 0);
        Check.same("write(0)", reader.write(0), -1);
        Check.same("free(0)", reader.free(0), -1);
        for (int kind = 0; kind <= 9; kind++) {
            Check.same("given", reader.given(kind), 0);
        }
        Check.throwing("line(0)", IndexOutOfBoundsException.class, () -> reader.line(0));
        Check.throwing("row(0, 0)", IndexOutOfBoundsException.class, () -> reader.row(0, 0));
        Check.throwing("place(0, 0)", IndexOutOfBoundsException.class, () -> reader.place(0, 0));
        Check.throwing("rows", IllegalStateException.class, () -> reader.rows(3, 3));
        Check.same("read of no text", reader.read(), 0);
        Check.same("a text of the first object is not the second one's",
                Check.holding("unlike").read() * 10 + new RuleReader().read(), 10);
        Check.end();
    }
}
