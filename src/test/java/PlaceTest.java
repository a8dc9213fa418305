/** Promise 6, sentence by sentence. */
public final class PlaceTest {
    private static final String PROMISE = "Promise 6: place";

    public static void main(String[] args) {
        Check.sentence(PROMISE, "Place i of a primitive row", PlaceTest::placesOfRows);
        Check.sentence(PROMISE, "IndexOutOfBoundsException: there is none", PlaceTest::noSuchRow);
        Check.sentence(PROMISE, "IndexOutOfBoundsException: there is none", PlaceTest::noSuchPlaceOfARow);
        Check.end();
    }

    private static void placesOfRows() {
        Reader reader = Check.reading("each column equal;where border rising");
        reader.rows(3, 4);
        Check.same("places", Check.places(reader), "0,3,6,9 1,4,7,10 2,5,8,11 0,1,2,3,5,6,8,9,10,11");
        Check.same("place(0, 0)", reader.place(0, 0), 0);
        Check.same("place(0, 3)", reader.place(0, 3), 9);
        Check.same("place(3, 9)", reader.place(3, 9), 11);
        reader.rows(2, 2);
        Check.same("places over another grid", Check.places(reader), "0,2 1,3 0,1,2,3");
        reader.rows(16, 16);
        Check.same("place(15, 15)", reader.place(15, 15), 255);
        Check.same("place(16, 59)", reader.place(16, 59), 255);
    }

    private static void noSuchRow() {
        Reader reader = new Reader();
        Check.outside("place of a new object, row", 0, k -> reader.place(k, 0));
        Check.feed(reader, "each column equal;where border rising");
        reader.read();
        Check.outside("place of what is not unrolled, row", 0, k -> reader.place(k, 0));
        reader.rows(3, 4);
        Check.same("place(3, 0)", reader.place(3, 0), 0);
        Check.outside("place of four rows, row", 4, k -> reader.place(k, 0));
        reader.rows(2, 2);
        Check.outside("place of three rows, row", 3, k -> reader.place(k, 0));
        Reader none = Check.reading("where inner equal");
        none.rows(2, 2);
        Check.outside("place of no rows, row", 0, k -> none.place(k, 0));
    }

    /** Behind a row's last place stands the next row's first one, which is not this row's. */
    private static void noSuchPlaceOfARow() {
        Reader reader = Check.reading("each column equal;where border rising");
        reader.rows(3, 4);
        for (int row = 0; row < 3; row++) {
            int k = row;
            Check.outside("place of row " + row, 4, i -> reader.place(k, i));
        }
        Check.outside("place of row 3", 10, i -> reader.place(3, i));
        reader.rows(1, 1);
        Check.outside("place of one", 1, i -> reader.place(0, i));
        Check.outside("place of no row", 0, i -> reader.place(2, i));
        reader.rows(16, 16);
        Check.outside("place of the last row", 60, i -> reader.place(16, i));
    }
}
