/** Promise 5: what a primitive row is. */
public final class RowTest {
    public static void main(String[] args) {
        kinds();
        numbersOfRules();
        wrongCalls();
        Check.end();
    }

    private static void kinds() {
        isRow("unlike", 0, -1, -1, -1);
        isRow("equal", 1, -1, -1, -1);
        isRow("rising", 2, -1, -1, -1);
        isRow("falling", 3, -1, -1, -1);
        isRow("sum = 0", 4, 0, 0, -1);
        isRow("sum < 15", 4, 1, 15, -1);
        isRow("sum > 999999", 4, 2, 999999, -1);
        isRow("count 3 = 2", 5, 0, 2, 3);
        isRow("count 0 < 999999", 5, 1, 999999, 0);
        isRow("count 999999 > 0", 5, 2, 0, 999999);
        isRow("given 0", 6, -1, 0, -1);
        isRow("given 9", 6, -1, 9, -1);
        isRow("given 0007", 6, -1, 7, -1);
    }

    private static void isRow(String text, int kind, int comparison, int number, int counted) {
        RuleReader reader = Check.reading(text);
        Check.same("rows of " + text, reader.rows(3, 2), 1);
        Check.same("number of " + text, reader.row(0, 0), 0);
        Check.same("kind of " + text, reader.row(0, 1), kind);
        Check.same("comparison of " + text, reader.row(0, 2), comparison);
        Check.same("number in " + text, reader.row(0, 3), number);
        Check.same("counted by " + text, reader.row(0, 4), counted);
        Check.same("places of " + text, reader.row(0, 5), 6);
    }

    private static void numbersOfRules() {
        RuleReader reader = Check.reading("each corner equal;each row{rising;sum = 3};where odd falling");
        Check.same("rows", reader.rows(1, 3), 7);
        int[] rules = {1, 1, 1, 2, 2, 2, 3};
        for (int k = 0; k < rules.length; k++) {
            Check.same("rule of row " + k, reader.row(k, 0), rules[k]);
            Check.same("size of row " + k, reader.row(k, 5), 1);
        }
    }

    private static void wrongCalls() {
        RuleReader reader = Check.reading("each row equal");
        Check.throwing("row, not unrolled", IndexOutOfBoundsException.class, () -> reader.row(0, 0));
        reader.rows(2, 3);
        for (int k : new int[] {-1, 3, 4000, Integer.MIN_VALUE, Integer.MAX_VALUE}) {
            Check.throwing("row(" + k + ", 0)", IndexOutOfBoundsException.class, () -> reader.row(k, 0));
        }
        for (int what : new int[] {-1, 6, 256, Integer.MIN_VALUE, Integer.MAX_VALUE}) {
            Check.throwing("row(0, " + what + ")", IndexOutOfBoundsException.class, () -> reader.row(0, what));
        }
        reader.rows(2, 1);
        Check.throwing("a row of the unrolling before", IndexOutOfBoundsException.class, () -> reader.row(1, 0));
    }
}
