/** Promise 12: the text is gone, what is read stays. */
public final class ClearTest {
    public static void main(String[] args) {
        RuleReader reader = new RuleReader();
        reader.clear();
        Check.throwing("rows of nothing", IllegalStateException.class, () -> reader.rows(1, 1));
        Check.feed(reader, "nonsense");
        reader.clear();
        Check.feed(reader, "where odd {given 3}");
        Check.same("read behind clear", reader.read(), 1);
        reader.rows(2, 2);
        reader.clear();
        Check.same("row", reader.row(0, 1), 6);
        Check.same("places", Check.places(reader, 1), "1,2");
        Check.same("free(1)", reader.free(1), 3);
        Check.same("given", reader.given(3), 1);
        Check.same("line", reader.line(0), 11);
        Check.same("print", Check.printed(reader), "where odd { given 3 }");
        Check.same("depth", reader.depth(), 2);
        Check.same("rows", reader.rows(3, 3), 1);
        Check.same("read of no text", reader.read(), 0);
        Check.same("depth of no text", reader.depth(), 0);
        Check.same("rows of no text", reader.rows(3, 3), 0);
        Check.end();
    }
}
