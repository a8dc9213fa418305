/** Promise 8: how many RULES are given with a number. */
public final class GivenTest {
    public static void main(String[] args) {
        RuleReader reader = Check.holding("given 4;each row{given 4;given 0};where odd given 9;given 004;"
                + "sum = 4;count 4 = 4;equal");
        Check.same("given(4), not read", reader.given(4), 0);
        Check.same("read", reader.read(), 8);
        int[] due = {1, 0, 0, 0, 3, 0, 0, 0, 0, 1};
        for (int kind = 0; kind < due.length; kind++) {
            Check.same("given(" + kind + ")", reader.given(kind), due[kind]);
        }
        for (int kind : new int[] {-1, 10, Integer.MIN_VALUE, Integer.MAX_VALUE}) {
            Check.same("given(" + kind + ")", reader.given(kind), 0);
        }
        reader.unit(';');
        Check.same("given(4) of what is read", reader.given(4), 3);
        reader.read();
        Check.same("given(4) of a refused text", reader.given(4), 0);
        Check.end();
    }
}
