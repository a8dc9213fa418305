/** The terms UNROLLED and PRIMITIVE ROWS, sentence by sentence. */
public final class UnrolledTermTest {
    private static final String UNROLLED = "Terms: UNROLLED";

    public static void main(String[] args) {
        Check.sentence(UNROLLED, "a grid of W by H places (place x + W y; x from 0 to W - 1, y likewise)",
                UnrolledTermTest::gridsOfPlaces);
        Check.sentence(UNROLLED, "a RULE is there for each SET of places that its each and where make, the "
                + "outermost one first", UnrolledTermTest::theOutermostFirst);
        Check.sentence(UNROLLED, "from the set of all places in order", UnrolledTermTest::allPlacesInOrder);
        Check.sentence(UNROLLED, "From a set, in the order that it has", UnrolledTermTest::inTheOrderOfTheSet);
        Check.sentence(UNROLLED, "{ changes nothing", UnrolledTermTest::bracesChangeNothing);
        Check.sentence(UNROLLED, "row: for each y that there is, rising, those with that y",
                UnrolledTermTest::setsOfRow);
        Check.sentence(UNROLLED, "column: by x", UnrolledTermTest::setsOfColumn);
        Check.sentence(UNROLLED, "diagonal: by x - y", UnrolledTermTest::setsOfDiagonal);
        Check.sentence(UNROLLED, "anti: by x + y", UnrolledTermTest::setsOfAnti);
        Check.sentence(UNROLLED, "block a b: by the whole parts of y / b, then of x / a",
                UnrolledTermTest::setsOfBlock);
        Check.sentence(UNROLLED, "cell: each place by itself", UnrolledTermTest::setsOfCell);
        Check.sentence(UNROLLED, "pair: each place and the one behind it", UnrolledTermTest::setsOfPair);
        Check.sentence(UNROLLED, "window n: each n places one behind the other", UnrolledTermTest::setsOfWindow);
        Check.sentence(UNROLLED, "side: each two that have a side in common, by the first one's place in the set, "
                + "then the other's (which stands behind it in the set)", UnrolledTermTest::setsOfSide);
        Check.sentence(UNROLLED, "corner: each four that meet in a corner, all of them in the set, by the place "
                + "of the one of least x and y in the set", UnrolledTermTest::setsOfCorner);
        Check.sentence(UNROLLED, "in the order x, y; x + 1, y; x, y + 1; x + 1, y + 1",
                UnrolledTermTest::orderInACorner);
        Check.sentence(UNROLLED, "where odd: those whose x + y is odd; even: is even",
                UnrolledTermTest::oddAndEven);
        Check.sentence(UNROLLED, "border: with x or y 0 or the greatest; inner: the others",
                UnrolledTermTest::borderAndInner);
        Check.sentence(UNROLLED, "One set (it may have no places)", UnrolledTermTest::oneSetOfAFilter);
        Check.sentence("Terms: PRIMITIVE ROWS", "for each RULE in the order of the text, for each of its sets in "
                + "order that has places, one", UnrolledTermTest::oneRowForEachSetWithPlaces);
        Check.end();
    }

    private static String upTo(int end) {
        StringBuilder all = new StringBuilder("0");
        for (int place = 1; place < end; place++) {
            all.append(',').append(place);
        }
        return all.toString();
    }

    private static void gridsOfPlaces() {
        Check.unrolls("equal", 1, 1, "0");
        Check.unrolls("equal", 16, 1, upTo(16));
        Check.unrolls("equal", 1, 16, upTo(16));
        Check.unrolls("equal", 16, 16, upTo(256));
        // The row and the column of one place tell its x and y.
        Check.unrolls("each row equal", 16, 1, upTo(16));
        Check.unrolls("each column equal", 16, 1, upTo(16).replace(',', ' '));
        Check.unrolls("each row equal", 1, 16, upTo(16).replace(',', ' '));
        Check.unrolls("each column equal", 1, 16, upTo(16));
        Check.unrolls("each row equal", 3, 2, "0,1,2 3,4,5");
        Check.unrolls("each row equal", 2, 3, "0,1 2,3 4,5");
    }

    private static void theOutermostFirst() {
        Check.unrolls("each row each pair equal", 2, 2, "0,1 2,3");
        Check.unrolls("each pair each row equal", 2, 2, "0,1 1 2 2,3");
        Check.unrolls("each column where odd equal", 2, 2, "2 1");
        Check.unrolls("where odd each pair equal", 2, 2, "1,2");
        Check.unrolls("each pair where odd equal", 2, 2, "1 1,2 2");
        Check.unrolls("each row ".repeat(40) + "equal", 2, 2, "0,1 2,3");
        Check.unrolls("each cell ".repeat(39) + "each pair equal", 2, 2, "");
        Check.unrolls("each pair " + "each row ".repeat(39) + "equal", 2, 2, "0,1 1 2 2,3");
        Check.unrolls("each row ".repeat(39) + "each pair equal", 2, 2, "0,1 2,3");
        Check.unrolls("each row equal;equal", 1, 2, "0 1 0,1");
    }

    private static void allPlacesInOrder() {
        Check.unrolls("equal", 2, 3, "0,1,2,3,4,5");
        Check.unrolls("where even equal", 3, 3, "0,2,4,6,8");
        Check.unrolls("each column equal;each row equal", 2, 2, "0,2 1,3 0,1 2,3");
    }

    private static void inTheOrderOfTheSet() {
        Check.unrolls("each column each pair equal", 2, 3, "0,2 2,4 1,3 3,5");
        Check.unrolls("each column each window 2 where border equal", 3, 3, "0,3 3,6 1 7 2,5 5,8");
        Check.unrolls("each anti each cell equal", 2, 2, "0 1 2 3");
        Check.unrolls("each diagonal each cell equal", 2, 2, "2 0 3 1");
        Check.unrolls("each corner each column each cell equal", 2, 2, "0 2 1 3");
        Check.unrolls("each block 2 1 each row equal", 3, 2, "0,1 2 3,4 5");
        Check.unrolls("where odd each window 2 equal", 3, 3, "1,3 3,5 5,7");
    }

    private static void bracesChangeNothing() {
        Check.unrolls("{equal}", 2, 2, "0,1,2,3");
        Check.unrolls("{".repeat(40) + "equal" + "}".repeat(40), 2, 1, "0,1");
        Check.unrolls("each row{{each cell{equal}}}", 2, 2, "0 1 2 3");
        Check.unrolls("each row{equal;{where odd{rising}};falling}", 2, 2, "0,1 2,3 1 2 0,1 2,3");
        Check.unrolls("{each row equal};equal", 2, 2, "0,1 2,3 0,1,2,3");
    }

    private static void setsOfRow() {
        Check.unrolls("each row equal", 1, 1, "0");
        Check.unrolls("each row equal", 2, 2, "0,1 2,3");
        Check.countsRows("each row equal", 16, 16, 16);
        // Rows 0 and 2 are not there.
        Check.unrolls("where inner each row equal", 3, 3, "4");
        Check.unrolls("where inner each row equal", 4, 4, "5,6 9,10");
        Check.unrolls("where inner each row equal", 2, 2, "");
        Check.unrolls("each column each row equal", 2, 2, "0 2 1 3");
    }

    private static void setsOfColumn() {
        Check.unrolls("each column equal", 1, 1, "0");
        Check.unrolls("each column equal", 3, 2, "0,3 1,4 2,5");
        Check.countsRows("each column equal", 16, 16, 16);
        Check.unrolls("where inner each column equal", 4, 4, "5,9 6,10");
        Check.unrolls("where inner each column equal", 2, 2, "");
    }

    private static void setsOfDiagonal() {
        Check.unrolls("each diagonal equal", 1, 1, "0");
        Check.unrolls("each diagonal equal", 3, 2, "3 0,4 1,5 2");
        Check.unrolls("each diagonal equal", 2, 3, "4 2,5 0,3 1");
        Check.unrolls("each diagonal equal", 3, 1, "0 1 2");
        Check.unrolls("each diagonal equal", 1, 3, "2 1 0");
        // No diagonal goes on at the other side of the grid.
        Check.unrolls("each diagonal equal", 2, 2, "2 0,3 1");
        Check.countsRows("each diagonal equal", 16, 16, 31);
        Reader reader = Check.reading("each diagonal equal");
        reader.rows(16, 16);
        Check.same("the first one, x - y = -15", Check.placesOf(reader, 0), "240");
        Check.same("the longest one", Check.placesOf(reader, 15),
                "0,17,34,51,68,85,102,119,136,153,170,187,204,221,238,255");
        Check.same("the last one, x - y = 15", Check.placesOf(reader, 30), "15");
        Check.unrolls("where inner each diagonal equal", 2, 2, "");
    }

    private static void setsOfAnti() {
        Check.unrolls("each anti equal", 1, 1, "0");
        Check.unrolls("each anti equal", 3, 2, "0 1,3 2,4 5");
        Check.unrolls("each anti equal", 2, 3, "0 1,2 3,4 5");
        Check.unrolls("each anti equal", 1, 3, "0 1 2");
        Check.countsRows("each anti equal", 16, 16, 31);
        Reader reader = Check.reading("each anti equal");
        reader.rows(16, 16);
        Check.same("the first one, x + y = 0", Check.placesOf(reader, 0), "0");
        Check.same("the longest one", Check.placesOf(reader, 15),
                "15,30,45,60,75,90,105,120,135,150,165,180,195,210,225,240");
        Check.same("the last one, x + y = 30", Check.placesOf(reader, 30), "255");
        Check.unrolls("where inner each anti equal", 2, 2, "");
    }

    private static void setsOfBlock() {
        Check.unrolls("each block 1 1 equal", 2, 2, "0 1 2 3");
        Check.unrolls("each block 2 1 equal", 3, 2, "0,1 2 3,4 5");
        Check.unrolls("each block 1 2 equal", 3, 3, "0,3 1,4 2,5 6 7 8");
        Check.unrolls("each block 2 2 equal", 4, 4, "0,1,4,5 2,3,6,7 8,9,12,13 10,11,14,15");
        // Those at the far sides may be smaller.
        Check.unrolls("each block 2 2 equal", 3, 3, "0,1,3,4 2,5 6,7 8");
        Check.unrolls("each block 3 3 equal", 3, 3, upTo(9));
        Check.unrolls("each block 4 4 equal", 3, 3, upTo(9));
        Check.unrolls("each block 16 1 equal", 2, 2, "0,1 2,3");
        Check.unrolls("each block 1 16 equal", 2, 2, "0,2 1,3");
        Check.unrolls("each block 16 16 equal", 1, 1, "0");
        Check.unrolls("each block 16 16 equal", 16, 16, upTo(256));
        Check.countsRows("each block 15 16 equal", 16, 16, 2);
        Check.countsRows("each block 16 15 equal", 16, 16, 2);
        Check.countsRows("each block 15 15 equal", 16, 16, 4);
        Check.countsRows("each block 1 1 equal", 16, 16, 256);
        Check.countsRows("each block 1 16 equal", 16, 16, 16);
        // By the grid's x and y, whatever the set begins with; the block of place 0 is not there.
        Check.unrolls("where inner each block 2 2 equal", 5, 5, "6 7,8 11,16 12,13,17,18");
        Check.unrolls("where inner each block 2 2 where inner each block 1 1 equal", 3, 3, "4");
        Check.unrolls("where inner each block 2 2 equal", 2, 2, "");
    }

    private static void setsOfCell() {
        Check.unrolls("each cell equal", 1, 1, "0");
        Check.unrolls("each cell equal", 2, 2, "0 1 2 3");
        Check.unrolls("where inner each cell equal", 2, 2, "");
        Check.countsRows("each cell equal", 16, 16, 256);
    }

    private static void setsOfPair() {
        Check.unrolls("where inner each pair equal", 2, 2, "");
        Check.unrolls("each pair equal", 1, 1, "");
        Check.unrolls("each pair equal", 2, 1, "0,1");
        Check.unrolls("each pair equal", 1, 2, "0,1");
        // Behind the last of a row stands the first of the next one; behind the last of all, none.
        Check.unrolls("each pair equal", 2, 2, "0,1 1,2 2,3");
        Check.unrolls("where even each pair equal", 3, 3, "0,2 2,4 4,6 6,8");
        Check.countsRows("each pair equal", 16, 16, 255);
    }

    private static void setsOfWindow() {
        Check.unrolls("each window 1 equal", 2, 2, "0 1 2 3");
        Check.unrolls("each window 2 equal", 2, 2, "0,1 1,2 2,3");
        Check.unrolls("each window 3 equal", 2, 2, "0,1,2 1,2,3");
        Check.unrolls("each window 4 equal", 2, 2, "0,1,2,3");
        Check.unrolls("each window 5 equal", 2, 2, "");
        Check.unrolls("each window 256 equal", 2, 2, "");
        Check.unrolls("each window 255 equal", 15, 16, "");
        Check.unrolls("each window 240 equal", 15, 16, upTo(240));
        Check.countsRows("each window 255 equal", 16, 16, 2);
        Check.unrolls("each window 256 equal", 16, 16, upTo(256));
        Check.unrolls("where inner each window 1 equal", 2, 2, "");
        Check.unrolls("each row each window 3 equal", 3, 2, "0,1,2 3,4,5");
        Check.unrolls("each row each window 4 equal", 3, 2, "");
    }

    private static void setsOfSide() {
        Check.unrolls("each side equal", 1, 1, "");
        Check.unrolls("each side equal", 2, 1, "0,1");
        Check.unrolls("each side equal", 1, 2, "0,1");
        Check.unrolls("each side equal", 1, 3, "0,1 1,2");
        // The last of a row and the first of the next one have no side in common.
        Check.unrolls("each side equal", 2, 2, "0,1 0,2 1,3 2,3");
        Check.unrolls("each side equal", 3, 2, "0,1 0,3 1,2 1,4 2,5 3,4 4,5");
        // Nor have the first and the last of a row or of a column.
        Check.unrolls("where border each side equal", 3, 3, "0,1 0,3 1,2 2,5 3,6 5,8 6,7 7,8");
        Check.unrolls("where even each side equal", 3, 3, "");
        Check.unrolls("each column each side equal", 2, 3, "0,2 2,4 1,3 3,5");
        Check.unrolls("where inner each side equal", 2, 2, "");
        Check.countsRows("each side equal", 16, 16, 480);
    }

    private static void setsOfCorner() {
        Check.unrolls("each corner equal", 1, 1, "");
        Check.unrolls("each corner equal", 2, 1, "");
        Check.unrolls("each corner equal", 1, 16, "");
        Check.unrolls("each corner equal", 16, 1, "");
        Check.unrolls("each corner equal", 2, 2, "0,1,2,3");
        // No corner goes round the right side of the grid.
        Check.unrolls("each corner equal", 2, 3, "0,1,2,3 2,3,4,5");
        Check.unrolls("each corner equal", 3, 3, "0,1,3,4 1,2,4,5 3,4,6,7 4,5,7,8");
        Check.countsRows("each corner equal", 16, 16, 225);
        // All four must be in the set: one is missing in each of these.
        Check.unrolls("where border each corner equal", 3, 3, "");
        Check.unrolls("each window 3 each corner equal", 2, 2, "");
        Check.unrolls("each window 4 each corner equal", 2, 3, "0,1,2,3 2,3,4,5");
        Check.unrolls("where inner each corner equal", 4, 4, "5,6,9,10");
        Check.unrolls("where inner each corner equal", 2, 2, "");
        Check.unrolls("each window 7 each corner equal", 3, 3, "0,1,3,4 1,2,4,5 1,2,4,5 3,4,6,7 3,4,6,7 4,5,7,8");
    }

    private static void orderInACorner() {
        Check.unrolls("each corner each pair equal", 2, 2, "0,1 1,2 2,3");
        Check.unrolls("each corner each pair equal", 3, 2, "0,1 1,3 3,4 1,2 2,4 4,5");
    }

    private static void oddAndEven() {
        Check.unrolls("where odd equal", 1, 1, "");
        Check.unrolls("where even equal", 1, 1, "0");
        Check.unrolls("where odd equal", 2, 1, "1");
        Check.unrolls("where odd equal", 1, 2, "1");
        Check.unrolls("where odd equal", 2, 2, "1,2");
        Check.unrolls("where even equal", 2, 2, "0,3");
        Check.unrolls("where odd equal", 3, 2, "1,3,5");
        Check.unrolls("where even equal", 3, 2, "0,2,4");
        Check.unrolls("where odd where even equal", 3, 3, "");
    }

    private static void borderAndInner() {
        Check.unrolls("where border equal", 1, 1, "0");
        Check.unrolls("where inner equal", 1, 1, "");
        Check.unrolls("where border equal", 2, 2, "0,1,2,3");
        Check.unrolls("where inner equal", 2, 2, "");
        Check.unrolls("where border equal", 3, 3, "0,1,2,3,5,6,7,8");
        Check.unrolls("where inner equal", 3, 3, "4");
        Check.unrolls("where inner equal", 4, 3, "5,6");
        Check.unrolls("where inner equal", 3, 4, "4,7");
        Check.unrolls("where inner equal", 2, 16, "");
        Check.unrolls("where inner equal", 16, 2, "");
        Check.unrolls("where inner equal", 16, 3, "17,18,19,20,21,22,23,24,25,26,27,28,29,30");
        Check.unrolls("where inner equal", 3, 16, "4,7,10,13,16,19,22,25,28,31,34,37,40,43");
        // The greatest of the grid, not of the set.
        Check.unrolls("where inner where inner equal", 3, 3, "4");
        Check.unrolls("where inner where border equal", 5, 5, "");
        Check.unrolls("each row where border equal", 3, 3, "0,1,2 3,5 6,7,8");
    }

    private static void oneSetOfAFilter() {
        Check.unrolls("where odd equal", 1, 1, "");
        Check.unrolls("where odd where odd equal", 1, 1, "");
        Check.unrolls("where odd each cell equal", 1, 1, "");
        Check.unrolls("where odd each window 1 equal", 1, 1, "");
        Check.unrolls("each cell where odd equal", 2, 2, "1 2");
        // 80 cells and two sets of each, the second one without places: 25 times 240 sets are made.
        String full = "each cell where odd where even{" + Check.times("equal", 25) + "}";
        Check.countsRows(full, 16, 5, 0);
        Check.countsRows(full + ";equal", 16, 5, 1);
        Check.isTooMuch(full + ";where odd equal", 16, 5);
    }

    private static void oneRowForEachSetWithPlaces() {
        Check.unrolls("", 2, 2, "");
        Check.unrolls("equal;equal", 2, 1, "0,1 0,1");
        Check.unrolls("each row{equal;rising}", 1, 2, "0 1 0 1");
        Check.unrolls("each cell where odd equal", 2, 2, "1 2");
        Check.unrolls("where inner equal;equal;each corner equal", 1, 2, "0,1");
        Check.unrolls("each column equal;each row equal", 2, 2, "0,2 1,3 0,1 2,3");
        Reader reader = Check.reading("each cell where odd equal;where inner equal;each row equal");
        reader.rows(2, 2);
        Check.same("the rule of the first row", reader.row(0, 0), 0);
        Check.same("the rule of the second row", reader.row(1, 0), 0);
        Check.same("the rule of the third row", reader.row(2, 0), 2);
        Check.same("the rule of the fourth row", reader.row(3, 0), 2);
        Check.outside("no fifth row", 4, k -> reader.row(k, 0));
    }
}
