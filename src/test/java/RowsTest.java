/** Promise 4: what is read is unrolled, within limits. */
public final class RowsTest {
    public static void main(String[] args) {
        shapes();
        filters();
        setsOfSets();
        rulesInOrder();
        wrongCalls();
        mostRows();
        mostPlaces();
        mostSets();
        whatFailingDrops();
        Check.end();
    }

    private static void unrolls(String text, int width, int height, String due) {
        RuleReader reader = Check.reading(text);
        int count = reader.rows(width, height);
        String what = text + " over " + width + " by " + height;
        Check.same("rows of " + what, count, due.isEmpty() ? 0 : due.split(" ").length);
        Check.same("places of " + what, Check.places(reader, count), due);
    }

    private static void shapes() {
        unrolls("", 2, 2, "");
        unrolls("equal", 3, 2, "0,1,2,3,4,5");
        unrolls("each row equal", 3, 2, "0,1,2 3,4,5");
        unrolls("each column equal", 3, 2, "0,3 1,4 2,5");
        unrolls("each diagonal equal", 3, 2, "3 0,4 1,5 2");
        unrolls("each diagonal equal", 2, 3, "4 2,5 0,3 1");
        unrolls("each anti equal", 3, 2, "0 1,3 2,4 5");
        unrolls("each block 2 1 equal", 3, 2, "0,1 2 3,4 5");
        unrolls("each block 1 2 equal", 3, 3, "0,3 1,4 2,5 6 7 8");
        unrolls("each block 2 2 equal", 3, 3, "0,1,3,4 2,5 6,7 8");
        unrolls("each block 16 16 equal", 2, 2, "0,1,2,3");
        unrolls("each cell equal", 2, 2, "0 1 2 3");
        unrolls("each pair equal", 2, 2, "0,1 1,2 2,3");
        unrolls("each pair equal", 1, 1, "");
        unrolls("each window 3 equal", 2, 2, "0,1,2 1,2,3");
        unrolls("each window 4 equal", 2, 2, "0,1,2,3");
        unrolls("each window 5 equal", 2, 2, "");
        unrolls("each side equal", 3, 2, "0,1 0,3 1,2 1,4 2,5 3,4 4,5");
        unrolls("each side equal", 1, 3, "0,1 1,2");
        unrolls("each side equal", 3, 1, "0,1 1,2");
        unrolls("each corner equal", 3, 3, "0,1,3,4 1,2,4,5 3,4,6,7 4,5,7,8");
        unrolls("each corner equal", 2, 2, "0,1,2,3");
        unrolls("each corner equal", 1, 16, "");
        unrolls("each corner equal", 16, 1, "");
    }

    private static void filters() {
        unrolls("where odd equal", 3, 2, "1,3,5");
        unrolls("where even equal", 3, 2, "0,2,4");
        unrolls("where border equal", 3, 3, "0,1,2,3,5,6,7,8");
        unrolls("where inner equal", 3, 3, "4");
        unrolls("where inner equal", 4, 3, "5,6");
        unrolls("where inner equal", 2, 16, "");
        unrolls("where odd equal", 1, 1, "");
        unrolls("where inner each row equal", 2, 2, "");
        unrolls("where inner where border equal", 5, 5, "");
    }

    private static void setsOfSets() {
        unrolls("each row where odd equal", 2, 2, "1 2");
        unrolls("each row each pair equal", 3, 2, "0,1 1,2 3,4 4,5");
        unrolls("each pair each row equal", 2, 2, "0,1 1 2 2,3");
        unrolls("where even each row equal", 3, 3, "0,2 4 6,8");
        unrolls("where even each pair equal", 3, 3, "0,2 2,4 4,6 6,8");
        unrolls("where even each side equal", 3, 3, "");
        unrolls("where border each corner equal", 3, 3, "");
        unrolls("where border each side equal", 3, 3, "0,1 0,3 1,2 2,5 3,6 5,8 6,7 7,8");
        unrolls("each row where inner equal", 3, 3, "4");
        unrolls("each corner each column equal", 2, 3, "0,2 1,3 2,4 3,5");
        unrolls("each corner each pair equal", 2, 2, "0,1 1,2 2,3");
        unrolls("each column each corner equal", 3, 3, "");
        unrolls("each column each side equal", 2, 3, "0,2 2,4 1,3 3,5");
        unrolls("each side each side equal", 2, 2, "0,1 0,2 1,3 2,3");
        unrolls("each side each cell equal", 2, 1, "0 1");
        unrolls("each window 3 each diagonal equal", 2, 2, "2 0 1 2 3 1");
        unrolls("each column{{each pair equal}}", 2, 3, "0,2 2,4 1,3 3,5");
        unrolls("each row ".repeat(40) + "equal", 2, 2, "0,1 2,3");
    }

    private static void rulesInOrder() {
        unrolls("each row {equal;where odd equal};each column equal", 2, 2, "0,1 2,3 1 2 0,2 1,3");
        unrolls("each cell{equal;rising}", 2, 1, "0 1 0 1");
    }

    private static void wrongCalls() {
        RuleReader reader = new RuleReader();
        Check.throwing("rows, nothing read", IllegalStateException.class, () -> reader.rows(0, 0));
        Check.feed(reader, "each row equal");
        Check.throwing("rows, not yet read", IllegalStateException.class, () -> reader.rows(2, 2));
        reader.read();
        int[] wrong = {0, 17, -1, 256, Integer.MIN_VALUE, Integer.MAX_VALUE};
        for (int side : wrong) {
            Check.throwing("width " + side, IllegalArgumentException.class, () -> reader.rows(side, 2));
            Check.throwing("height " + side, IllegalArgumentException.class, () -> reader.rows(2, side));
        }
        Check.same("rows(1, 1)", reader.rows(1, 1), 1);
        Check.same("rows(16, 16)", reader.rows(16, 16), 16);
        Check.same("rows(1, 16)", reader.rows(1, 16), 16);
        Check.same("rows(16, 1)", reader.rows(16, 1), 1);
    }

    private static String times(String rule, int count) {
        return (rule + ";").repeat(count - 1) + rule;
    }

    private static void mostRows() {
        RuleReader reader = Check.reading("each cell{" + times("equal", 25) + "}");
        Check.same("4,000 rows", reader.rows(16, 10), 4000);
        Check.same("the last one's rule", reader.row(3999, 0), 24);
        Check.same("the last one's place", reader.place(3999, 0), 159);
        Check.throwing("row(4000, 0)", IndexOutOfBoundsException.class, () -> reader.row(4000, 0));
        Check.feed(reader, ";equal");
        reader.read();
        Check.throwing("4,001 rows", UnsupportedOperationException.class, () -> reader.rows(16, 10));
        Check.same("a smaller grid", reader.rows(16, 9), 144 * 25 + 1);
    }

    private static void mostPlaces() {
        // 2 times 121 windows of 120 places are 29,040 places.
        String windows = "each window 120{equal;rising};";
        RuleReader reader = Check.reading(windows + times("equal", 4));
        Check.same("30,000 places", reader.rows(15, 16), 246);
        Check.same("the last place", reader.place(245, 239), 239);
        // 239, 362, 240 and 120 places.
        String oneMore = "each pair where odd equal;where inner each pair equal;equal;where odd equal";
        Check.same("961 places", placesIn(Check.reading(oneMore), 15, 16), 961);
        Check.throwing("30,001 places", UnsupportedOperationException.class,
                () -> Check.reading(windows + oneMore).rows(15, 16));
        Check.throwing("a whole row more", UnsupportedOperationException.class,
                () -> Check.reading(windows + times("equal", 5)).rows(15, 16));
    }

    private static int placesIn(RuleReader reader, int width, int height) {
        int count = reader.rows(width, height);
        int sum = 0;
        for (int k = 0; k < count; k++) {
            sum += reader.row(k, 5);
        }
        return sum;
    }

    private static void mostSets() {
        String full = "each cell{where odd{" + times("equal", 12) + "}};each cell equal";
        RuleReader reader = Check.reading(full);
        Check.same("6,000 sets", reader.rows(15, 16), 12 * 120 + 240);
        Check.throwing("6,001 sets", UnsupportedOperationException.class,
                () -> Check.reading(full + ";where odd equal").rows(15, 16));
        Check.same("braces make no sets",
                Check.reading(full + ";{{equal}}").rows(15, 16), 12 * 120 + 241);
        Check.same("each without a RULE makes no sets",
                Check.reading(full + ";each cell{}").rows(15, 16), 12 * 120 + 240);
        // 240 cells, 240 sets of where, and 120 rows, of those that have a place alone.
        Check.same("each makes no sets of an empty one",
                Check.reading("each cell where odd each row{" + times("equal", 10) + "}").rows(15, 16), 1200);
        // 256 cells, half of them without places: each where makes 256 sets all the same.
        String chain = "each cell where odd " + "where even ".repeat(21);
        Check.same("5,888 sets, no row", Check.reading(chain + "equal").rows(16, 16), 0);
        Check.throwing("6,144 sets, no row", UnsupportedOperationException.class,
                () -> Check.reading(chain + "where odd equal").rows(16, 16));
        Check.throwing("sets are made anew for each RULE", UnsupportedOperationException.class,
                () -> Check.reading(chain + "{equal;equal}").rows(16, 16));
        Check.throwing("very many sets", UnsupportedOperationException.class,
                () -> Check.reading("each side ".repeat(3) + "each window 1 ".repeat(20) + "equal").rows(16, 16));
    }

    private static void whatFailingDrops() {
        RuleReader reader = Check.reading("each cell{" + times("equal", 16) + "}");
        Check.same("rows(15, 16)", reader.rows(15, 16), 3840);
        Check.throwing("rows(16, 16)", UnsupportedOperationException.class, () -> reader.rows(16, 16));
        nothingUnrolled(reader);
        Check.same("rows(1, 2)", reader.rows(1, 2), 32);
        Check.throwing("rows(0, 2)", IllegalArgumentException.class, () -> reader.rows(0, 2));
        nothingUnrolled(reader);
        Check.same("what is read stays", reader.rows(1, 2), 32);
    }

    private static void nothingUnrolled(RuleReader reader) {
        Check.throwing("row", IndexOutOfBoundsException.class, () -> reader.row(0, 0));
        Check.throwing("place", IndexOutOfBoundsException.class, () -> reader.place(0, 0));
        Check.same("free", reader.free(0), -1);
    }
}
