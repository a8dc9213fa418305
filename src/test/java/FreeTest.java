/** Promise 7, sentence by sentence. */
public final class FreeTest {
    private static final String PROMISE = "Promise 7: free";

    public static void main(String[] args) {
        Check.sentence(PROMISE, "The k-th place (from 0 on) of the grid that is in no primitive row",
                FreeTest::freePlaces);
        Check.sentence(PROMISE, "The k-th place (from 0 on) of the grid that is in no primitive row",
                FreeTest::anotherGrid);
        Check.sentence(PROMISE, "-1 when there is none such", FreeTest::noneSuch);
        Check.sentence(PROMISE, "or nothing is unrolled", FreeTest::nothingIsUnrolled);
        Check.end();
    }

    private static Reader unrolling(String text, int width, int height) {
        Reader reader = Check.reading(text);
        reader.rows(width, height);
        return reader;
    }

    private static void areFree(String text, int width, int height, int... due) {
        Reader reader = unrolling(text, width, height);
        for (int k = 0; k < due.length; k++) {
            Check.same("free(" + k + ") of '" + text + "'", reader.free(k), due[k]);
        }
        Check.answersOutside("free of '" + text + "'", -1, due.length, reader::free);
    }

    private static void freePlaces() {
        areFree("", 1, 1, 0);
        areFree("", 2, 3, 0, 1, 2, 3, 4, 5);
        areFree("{}", 2, 1, 0, 1);
        areFree("where odd equal", 3, 2, 0, 2, 4);
        areFree("where even equal", 3, 2, 1, 3, 5);
        areFree("where inner equal", 3, 3, 0, 1, 2, 3, 5, 6, 7, 8);
        areFree("each row each corner equal", 1, 1, 0);
        areFree("where inner equal;where inner rising", 1, 2, 0, 1);
        areFree("where odd equal;where border where even rising", 3, 3, 4);
        areFree("where border equal", 16, 3, 17, 18, 19, 20, 21, 22, 23, 24, 25, 26, 27, 28, 29, 30);
        Reader all = unrolling("", 16, 16);
        Check.same("free(0) of all", all.free(0), 0);
        Check.same("free(255) of all", all.free(255), 255);
        Check.same("free(256) of all", all.free(256), -1);
    }

    private static void anotherGrid() {
        Reader reader = unrolling("where inner equal", 16, 16);
        Check.same("free(59)", reader.free(59), 255);
        Check.same("free(60)", reader.free(60), -1);
        reader.rows(2, 2);
        Check.same("free(3) of a smaller grid", reader.free(3), 3);
        Check.same("free(4) of a smaller grid", reader.free(4), -1);
        reader.rows(3, 3);
        Check.same("free(3) of a larger grid", reader.free(3), 3);
        Check.same("free(4) of a larger grid", reader.free(4), 5);
        reader.rows(3, 2);
        Check.same("free(4) of a flat grid", reader.free(4), 4);
        reader.clear();
        Check.same("free(4) behind clear", reader.free(4), 4);
    }

    private static void noneSuch() {
        areFree("where odd equal", 2, 2, 0, 3);
        areFree("equal", 1, 1);
        areFree("equal", 2, 3);
        areFree("equal", 16, 16);
        areFree("where inner equal;each corner equal", 3, 3);
        areFree("where odd equal;where even equal", 16, 16);
    }

    private static void nothingIsUnrolled() {
        Reader reader = new Reader();
        Check.answersOutside("free of a new object", -1, 0, reader::free);
        Check.feed(reader, "where odd equal");
        Check.answersOutside("free of a text", -1, 0, reader::free);
        reader.read();
        Check.answersOutside("free of what is read", -1, 0, reader::free);
        reader.rows(2, 2);
        Check.same("free(1)", reader.free(1), 3);
        reader.read();
        Check.answersOutside("free of what is read anew", -1, 0, reader::free);
        reader.rows(2, 2);
        Check.throwing("rows(17, 2)", IllegalArgumentException.class, () -> reader.rows(17, 2));
        Check.answersOutside("free behind a wrong width", -1, 0, reader::free);
        Reader large = unrolling("where odd " + "each cell ".repeat(31) + "{equal;equal}", 2, 2);
        Check.same("free(1) of a small grid", large.free(1), 3);
        Check.throwing("rows(16, 16)", UnsupportedOperationException.class, () -> large.rows(16, 16));
        Check.answersOutside("free behind too much", -1, 0, large::free);
    }
}
