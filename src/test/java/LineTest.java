/** Promise 9: where a RULE's word stands. */
public final class LineTest {
    public static void main(String[] args) {
        RuleReader reader = Check.holding(" unlike;each row\n{sum = 3 ;\ncount 1<2};given 5");
        Check.throwing("line, not read", IndexOutOfBoundsException.class, () -> reader.line(0));
        Check.same("read", reader.read(), 4);
        int[] due = {1, 18, 28, 39};
        for (int n = 0; n < due.length; n++) {
            Check.same("line(" + n + ")", reader.line(n), due[n]);
        }
        for (int n : new int[] {-1, 4, 400, 2000, Integer.MIN_VALUE, Integer.MAX_VALUE}) {
            Check.throwing("line(" + n + ")", IndexOutOfBoundsException.class, () -> reader.line(n));
        }
        reader.clear();
        Check.same("line(3) behind clear", reader.line(3), 39);
        Check.feed(reader, "equal");
        reader.read();
        Check.same("line(0) of another text", reader.line(0), 0);
        Check.throwing("line(1) of another text", IndexOutOfBoundsException.class, () -> reader.line(1));
        Check.end();
    }
}
