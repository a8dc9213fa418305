/** Promise 7: the places that are in no primitive row. */
public final class FreeTest {
    public static void main(String[] args) {
        isFree("", 2, 3, 0, 1, 2, 3, 4, 5);
        isFree("equal", 2, 3);
        isFree("where odd equal", 3, 2, 0, 2, 4);
        isFree("where inner equal", 3, 3, 0, 1, 2, 3, 5, 6, 7, 8);
        isFree("where inner equal;each corner equal", 3, 3);
        isFree("each row each corner equal", 1, 1, 0);
        isFree("where border equal", 16, 3, 17, 18, 19, 20, 21, 22, 23, 24, 25, 26, 27, 28, 29, 30);
        grids();
        Check.end();
    }

    private static void isFree(String text, int width, int height, int... due) {
        RuleReader reader = Check.reading(text);
        Check.same("free of " + text + ", not unrolled", reader.free(0), -1);
        reader.rows(width, height);
        for (int k = 0; k < due.length; k++) {
            Check.same("free(" + k + ") of " + text, reader.free(k), due[k]);
        }
        for (int k : new int[] {-1, due.length, due.length + 1, Integer.MIN_VALUE, Integer.MAX_VALUE}) {
            Check.same("free(" + k + ") of " + text, reader.free(k), -1);
        }
    }

    private static void grids() {
        RuleReader reader = Check.reading("where inner equal");
        reader.rows(16, 16);
        Check.same("free(59)", reader.free(59), 255);
        reader.rows(2, 2);
        Check.same("free(3) of a smaller grid", reader.free(3), 3);
        Check.same("free(4) of a smaller grid", reader.free(4), -1);
        reader.clear();
        Check.same("free(3) behind clear", reader.free(3), 3);
    }
}
