/** Promise 4, sentence by sentence. What is unrolled, and in what order, is UnrolledTermTest's. */
public final class RowsTest {
    private static final String PROMISE = "Promise 4: rows";
    private static final int[] NO_SIDES = {0, 17, -1, -16, 256, 65537, Integer.MIN_VALUE, Integer.MAX_VALUE};

    /** Over 15 by 16 places: 2 times 121 windows of 120 places, 29,040 places in all. */
    private static final String WINDOWS = "each window 120{equal;rising};";
    /** Over 15 by 16 places: 25 times 240 sets, from which nothing comes. */
    private static final String SETS = "each cell each pair{" + Check.times("equal", 25) + "}";

    public static void main(String[] args) {
        Check.sentence(PROMISE, "What is read is unrolled: how many primitive rows", RowsTest::howManyRows);
        Check.sentence(PROMISE, "What is read is unrolled: how many primitive rows", RowsTest::onlyTheLastGrid);
        Check.sentence(PROMISE, "IllegalStateException: nothing is read", RowsTest::nothingIsRead);
        Check.sentence(PROMISE, "IllegalArgumentException: width or height is not 1 .. 16", RowsTest::allSides);
        Check.sentence(PROMISE, "IllegalArgumentException: width or height is not 1 .. 16", RowsTest::noSides);
        Check.sentence(PROMISE, "UnsupportedOperationException: there would be more than 4,000 rows",
                RowsTest::mostRows);
        Check.sentence(PROMISE, "or more than 30,000 places in all of them", RowsTest::mostPlaces);
        Check.sentence(PROMISE, "or more than 6,000 sets are made", RowsTest::mostSets);
        Check.sentence(PROMISE, "by each each and where around a RULE", RowsTest::setsOfEveryLayer);
        Check.sentence(PROMISE, "by each each and where around a RULE", RowsTest::noSetsOfAnythingElse);
        Check.sentence(PROMISE, "for each RULE anew", RowsTest::setsForEachRuleAnew);
        Check.sentence(PROMISE, "(also those without places", RowsTest::setsWithoutPlaces);
        Check.sentence(PROMISE, "and those from which nothing comes)", RowsTest::setsFromWhichNothingComes);
        Check.sentence(PROMISE, "(Behind the last two nothing is unrolled.)", RowsTest::behindAWrongSide);
        Check.sentence(PROMISE, "(Behind the last two nothing is unrolled.)", RowsTest::behindTooMuch);
        Check.end();
    }

    private static void howManyRows() {
        Check.countsRows("", 1, 1, 0);
        Check.countsRows("", 16, 16, 0);
        Check.countsRows("{}", 3, 3, 0);
        Check.countsRows("where inner equal", 2, 2, 0);
        Check.countsRows("equal", 1, 1, 1);
        Check.countsRows("equal", 16, 16, 1);
        Check.countsRows("each row{equal;rising};each column equal", 3, 2, 7);
        Check.countsRows("each cell equal", 16, 16, 256);
    }

    private static void onlyTheLastGrid() {
        Reader reader = Check.reading("each row equal");
        Check.same("rows(2, 3)", reader.rows(2, 3), 3);
        Check.same("rows(3, 2)", reader.rows(3, 2), 2);
        Check.same("places", Check.places(reader), "0,1,2 3,4,5");
        Check.same("rows(3, 2) again", reader.rows(3, 2), 2);
        Check.same("places again", Check.places(reader), "0,1,2 3,4,5");
        Check.same("rows(1, 1)", reader.rows(1, 1), 1);
        Check.same("places of one", Check.places(reader), "0");
    }

    private static void nothingIsRead() {
        Reader reader = new Reader();
        Check.throwing("rows of a new object", IllegalStateException.class, () -> reader.rows(2, 2));
        Check.throwing("rows(0, 17) of a new object", IllegalStateException.class, () -> reader.rows(0, 17));
        Check.feed(reader, "equal");
        Check.throwing("rows of what is not read", IllegalStateException.class, () -> reader.rows(2, 2));
        reader.read();
        Check.same("rows of what is read", reader.rows(2, 2), 1);
        reader.unit(';');
        reader.read();
        Check.throwing("rows of what is refused", IllegalStateException.class, () -> reader.rows(2, 2));
        reader.clear();
        Check.throwing("rows behind clear", IllegalStateException.class, () -> reader.rows(2, 2));
        reader.read();
        Check.same("rows of no text that is read", reader.rows(2, 2), 0);
    }

    private static void allSides() {
        Reader reader = Check.reading("each cell equal");
        for (int width = 1; width <= 16; width++) {
            for (int height = 1; height <= 16; height++) {
                Check.same("rows(" + width + ", " + height + ")", reader.rows(width, height), width * height);
            }
        }
    }

    private static void noSides() {
        Reader reader = Check.reading("equal");
        Reader empty = Check.reading("");
        for (int side : NO_SIDES) {
            for (int other : new int[] {1, 2, 16, side}) {
                Check.throwing("rows(" + side + ", " + other + ")", IllegalArgumentException.class,
                        () -> reader.rows(side, other));
                Check.throwing("rows(" + other + ", " + side + ")", IllegalArgumentException.class,
                        () -> reader.rows(other, side));
            }
            Check.throwing("rows(" + side + ", 1) of no RULE", IllegalArgumentException.class,
                    () -> empty.rows(side, 1));
        }
        Check.throwing("rows(1, 256)", IllegalArgumentException.class, () -> reader.rows(1, 256));
        Check.throwing("rows(-2, -2)", IllegalArgumentException.class, () -> reader.rows(-2, -2));
        Check.same("what is read stays", reader.rows(1, 1), 1);
    }

    private static void mostRows() {
        String most = "each cell{" + Check.times("equal", 25) + "}";
        Reader reader = Check.reading(most);
        Check.same("4,000 rows", reader.rows(16, 10), 4000);
        Check.same("the last one's rule", reader.row(3999, 0), 24);
        Check.same("the last one's place", reader.place(3999, 0), 159);
        Check.outside("row", 4000, k -> reader.row(k, 0));
        Check.countsRows(most + ";where inner where border equal", 16, 10, 4000);
        Check.isTooMuch(most + ";equal", 16, 10);
        Check.isTooMuch("equal;" + most, 16, 10);
        Check.isTooMuch(most + ";where odd equal", 16, 10);
        Check.isTooMuch(most, 16, 11);
        Check.isTooMuch("each cell{" + Check.times("equal", 16) + "}", 16, 16);
        Check.countsRows("each cell{" + Check.times("equal", 16) + "}", 15, 16, 3840);
    }

    private static int placesIn(String text) {
        Reader reader = Check.reading(text);
        int count = reader.rows(15, 16);
        int sum = 0;
        for (int k = 0; k < count; k++) {
            sum += reader.row(k, 5);
        }
        return sum;
    }

    private static void mostPlaces() {
        String most = WINDOWS + Check.times("equal", 4);
        Check.same("places of all rows", placesIn(most), 30000);
        Reader reader = Check.reading(most);
        Check.same("30,000 places", reader.rows(15, 16), 246);
        Check.same("the last place", reader.place(245, 239), 239);
        Check.countsRows(most + ";where inner where border equal", 15, 16, 246);
        // 239, 362, 240 and 120 places.
        String oneMore = "each pair where odd equal;where inner each pair equal;equal;where odd equal";
        Check.same("places of four RULES", placesIn(oneMore), 961);
        Check.isTooMuch(WINDOWS + oneMore, 15, 16);
        Check.isTooMuch(oneMore + ";" + WINDOWS + "{}", 15, 16);
        Check.isTooMuch(most + ";equal", 15, 16);
        Check.isTooMuch(most, 16, 16);
    }

    private static void mostSets() {
        Check.countsRows(SETS, 15, 16, 0);
        Check.isTooMuch(SETS + ";where odd equal", 15, 16);
        Check.isTooMuch(SETS + ";each block 16 16 equal", 15, 16);
        Check.isTooMuch("where odd equal;" + SETS, 15, 16);
        Check.isTooMuch(SETS, 16, 16);
        // With rows: 12 times 240 cells and 240 sets of where, half of them with a place; and 240 cells.
        String full = "each cell where odd{" + Check.times("equal", 12) + "};each cell equal";
        Check.countsRows(full, 15, 16, 12 * 120 + 240);
        Check.isTooMuch(full + ";where odd equal", 15, 16);
    }

    private static void setsOfEveryLayer() {
        // 40 layers of 150 sets.
        String layers = "each cell ".repeat(40) + "equal";
        Check.countsRows(layers, 15, 10, 150);
        Check.isTooMuch(layers + ";each block 16 16 equal", 15, 10);
        Check.isTooMuch(layers, 16, 10);
        // 239 pairs, 478 cells and a set of where for each of these: 1,195 sets, half of the last with a place.
        Check.countsRows("each pair each cell where even {" + Check.times("equal", 5) + "}", 15, 16, 5 * 239);
        Check.isTooMuch("each pair each cell where even {" + Check.times("equal", 6) + "}", 15, 16);
    }

    private static void noSetsOfAnythingElse() {
        Check.countsRows(SETS + ";equal", 15, 16, 1);
        Check.countsRows(SETS + ";{{{equal}}}", 15, 16, 1);
        Check.countsRows(SETS + ";each cell{};where odd{each row{}}", 15, 16, 0);
        Check.countsRows("{each cell{each pair{" + Check.times("{equal}", 25) + "}}}", 15, 16, 0);
    }

    private static void setsForEachRuleAnew() {
        // 3,840 sets for one RULE within all of it, 7,680 for two, wherever the two part.
        String outer = "each cell ".repeat(8);
        String inner = "each cell ".repeat(7);
        Check.countsRows(outer + inner + "equal", 16, 16, 256);
        Check.isTooMuch(outer + inner + "{equal;equal}", 16, 16);
        Check.isTooMuch(outer + "{" + inner + "equal;" + inner + "equal}", 16, 16);
        Check.isTooMuch(outer + inner + "equal;" + outer + inner + "equal", 16, 16);
        // 2,048 for the first one, 3,840 for the second: 5,888; one layer more: 6,144.
        Check.countsRows(outer + "{equal;" + inner + "equal}", 16, 16, 512);
        Check.isTooMuch(outer + "{equal;each cell " + inner + "equal}", 16, 16);
    }

    private static void setsWithoutPlaces() {
        // 240 cells and a set of where for each, which has no place.
        String most = "each cell where odd where even ";
        Check.countsRows(most + "{" + Check.times("equal", 8) + "}", 15, 16, 0);
        Check.isTooMuch(most + "{" + Check.times("equal", 9) + "}", 15, 16);
        // 25 times 80 cells, 80 sets of odd and 80 of even.
        String exact = most + "{" + Check.times("equal", 25) + "}";
        Check.countsRows(exact, 16, 5, 0);
        Check.isTooMuch(exact + ";where odd equal", 16, 5);
        // No each makes anything from a set without places: 240 cells, 240 of where, 120 rows.
        Check.countsRows("each cell where odd each row{" + Check.times("equal", 10) + "}", 15, 16, 1200);
        Check.countsRows("where odd where even each cell " + "each row ".repeat(20) + "equal", 16, 16, 0);
    }

    private static void setsFromWhichNothingComes() {
        for (String last : new String[] {"pair", "window 2", "side", "corner"}) {
            String most = "each cell each " + last + "{" + Check.times("equal", 25) + "}";
            Check.countsRows(most, 15, 16, 0);
            Check.isTooMuch(most + ";each block 16 16 equal", 15, 16);
        }
    }

    private static void behindAWrongSide() {
        for (int side : NO_SIDES) {
            Reader reader = Check.reading("where odd equal");
            reader.rows(2, 2);
            Check.throwing("rows(" + side + ", 2)", IllegalArgumentException.class, () -> reader.rows(side, 2));
            Check.nothingIsUnrolled("behind rows(" + side + ", 2)", reader);
            reader.rows(2, 2);
            Check.throwing("rows(2, " + side + ")", IllegalArgumentException.class, () -> reader.rows(2, side));
            Check.nothingIsUnrolled("behind rows(2, " + side + ")", reader);
            Check.same("what is read stays", reader.rows(2, 2), 1);
            Check.same("and is unrolled again", Check.places(reader), "1,2");
        }
    }

    private static void behindTooMuch() {
        nothingBehindTooMuch("each cell{" + Check.times("equal", 16) + "}", 16);
        nothingBehindTooMuch("each window 120{equal;rising}", 2);
        nothingBehindTooMuch("equal;" + "each cell ".repeat(24) + "equal", 2);
    }

    /** Over 16 by 16 it is too much; over one place there are that many rows, and no place is free. */
    private static void nothingBehindTooMuch(String text, int rules) {
        Reader reader = Check.reading(text + ";equal");
        int small = reader.rows(1, 1);
        Check.same("row(0, 5)", reader.row(0, 5), 1);
        Check.throwing("rows(16, 16)", UnsupportedOperationException.class, () -> reader.rows(16, 16));
        Check.nothingIsUnrolled("behind too much", reader);
        Check.throwing("rows(16, 16) again", UnsupportedOperationException.class, () -> reader.rows(16, 16));
        Check.nothingIsUnrolled("behind too much again", reader);
        Check.same("what is read stays", reader.line(rules), text.length() + 1);
        Check.same("and is unrolled again", reader.rows(1, 1), small);
        Check.same("place(0, 0)", reader.place(0, 0), 0);
        Check.same("free(0)", reader.free(0), -1);
    }
}
