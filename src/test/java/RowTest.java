/** Promise 5, sentence by sentence. */
public final class RowTest {
    private static final String PROMISE = "Promise 5: row";
    private static final int RULE = 0;
    private static final int KIND = 1;
    private static final int COMPARISON = 2;
    private static final int NUMBER = 3;
    private static final int COUNTED = 4;
    private static final int SIZE = 5;

    public static void main(String[] args) {
        Check.sentence(PROMISE, "0 its RULE's number", RowTest::numbersOfRules);
        Check.sentence(PROMISE, "1 the kind (0 unlike, 1 equal, 2 rising, 3 falling, 4 sum, 5 count, 6 given)",
                RowTest::kinds);
        Check.sentence(PROMISE, "2 the COMPARISON (0 =, 1 <, 2 >; -1: none)", RowTest::comparisons);
        Check.sentence(PROMISE, "3 the number compared with, or that of given (-1: none)", RowTest::numbers);
        Check.sentence(PROMISE, "4 what is counted (-1: nothing)", RowTest::counted);
        Check.sentence(PROMISE, "5 how many places", RowTest::sizes);
        Check.sentence(PROMISE, "IndexOutOfBoundsException: there is no such row", RowTest::noSuchRow);
        Check.sentence(PROMISE, "IndexOutOfBoundsException: there is no such row, or what", RowTest::noSuchWhat);
        Check.end();
    }

    private static void isRow(String text, int what, int due) {
        Reader reader = Check.reading(text);
        reader.rows(3, 2);
        Check.same("row(0, " + what + ") of '" + text + "'", reader.row(0, what), due);
    }

    private static void numbersOfRules() {
        isRow("equal", RULE, 0);
        isRow("each corner each corner each pair each row where odd each diagonal equal;rising", RULE, 0);
        isRow("where odd where even equal;rising", RULE, 1);
        Reader reader = Check.reading("each corner equal;each row{rising;sum = 3};where odd falling");
        Check.same("rows", reader.rows(1, 3), 7);
        int[] due = {1, 1, 1, 2, 2, 2, 3};
        for (int k = 0; k < due.length; k++) {
            Check.same("row(" + k + ", 0)", reader.row(k, RULE), due[k]);
        }
        Reader many = Check.reading(Check.times("equal", 80));
        many.rows(1, 1);
        Check.same("row(0, 0) of 80", many.row(0, RULE), 0);
        Check.same("row(79, 0) of 80", many.row(79, RULE), 79);
    }

    private static void kinds() {
        isRow("unlike", KIND, 0);
        isRow("equal", KIND, 1);
        isRow("rising", KIND, 2);
        isRow("falling", KIND, 3);
        isRow("sum=1", KIND, 4);
        isRow("count 1=1", KIND, 5);
        isRow("given 1", KIND, 6);
    }

    private static void comparisons() {
        isRow("sum=1", COMPARISON, 0);
        isRow("sum<1", COMPARISON, 1);
        isRow("sum>1", COMPARISON, 2);
        isRow("count 1=1", COMPARISON, 0);
        isRow("count 1<1", COMPARISON, 1);
        isRow("count 1>1", COMPARISON, 2);
        for (String rule : new String[] {"unlike", "equal", "rising", "falling", "given 0", "given 1"}) {
            isRow(rule, COMPARISON, -1);
        }
    }

    private static void numbers() {
        for (int number : new int[] {0, 1, 9, 10, 255, 256, 32768, 65536, 99999, 100000, 999999}) {
            isRow("sum=" + number, NUMBER, number);
            isRow("count 5<" + number, NUMBER, number);
        }
        for (int number = 0; number <= 9; number++) {
            isRow("given " + number, NUMBER, number);
        }
        isRow("sum=000012", NUMBER, 12);
        isRow("sum=000000", NUMBER, 0);
        isRow("given 000007", NUMBER, 7);
        for (String rule : new String[] {"unlike", "equal", "rising", "falling"}) {
            isRow(rule, NUMBER, -1);
            isRow("each block 2 3 each window 1 " + rule, NUMBER, -1);
        }
    }

    private static void counted() {
        for (int number : new int[] {0, 1, 9, 10, 65536, 999999}) {
            isRow("count " + number + "=5", COUNTED, number);
        }
        isRow("count 000012=5", COUNTED, 12);
        for (String rule : new String[] {"unlike", "equal", "rising", "falling", "sum=0", "sum=5", "given 5"}) {
            isRow(rule, COUNTED, -1);
        }
    }

    private static void sizes() {
        isRow("equal", SIZE, 6);
        isRow("each cell equal", SIZE, 1);
        isRow("each row equal", SIZE, 3);
        isRow("sum=4", SIZE, 6);
        Reader reader = Check.reading("equal");
        reader.rows(1, 1);
        Check.same("row(0, 5) of one place", reader.row(0, SIZE), 1);
        reader.rows(16, 16);
        Check.same("row(0, 5) of all places", reader.row(0, SIZE), 256);
    }

    private static void noSuchRow() {
        Reader reader = new Reader();
        Check.outside("row of a new object", 0, k -> reader.row(k, 0));
        Check.feed(reader, "each row equal");
        reader.read();
        Check.outside("row of what is not unrolled", 0, k -> reader.row(k, 0));
        reader.rows(2, 3);
        Check.same("row(2, 5)", reader.row(2, SIZE), 2);
        for (int what = 0; what <= 5; what++) {
            int asked = what;
            Check.outside("row of three, what " + what, 3, k -> reader.row(k, asked));
        }
        reader.rows(2, 1);
        Check.same("row(0, 5) of fewer", reader.row(0, SIZE), 2);
        Check.outside("row of one", 1, k -> reader.row(k, 0));
        Reader none = Check.reading("where inner equal");
        none.rows(2, 2);
        Check.outside("row of none", 0, k -> none.row(k, 0));
    }

    private static void noSuchWhat() {
        Reader reader = Check.reading("each row equal");
        reader.rows(2, 3);
        for (int row = 0; row < 3; row++) {
            int k = row;
            Check.outside("what of row " + row, 6, what -> reader.row(k, what));
        }
        Check.outside("what of no row", 6, what -> reader.row(3, what));
        Check.outside("what of no row", 6, what -> reader.row(-1, what));
    }
}
