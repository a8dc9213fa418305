/** Promise 6: the places of a primitive row. */
public final class PlaceTest {
    public static void main(String[] args) {
        RuleReader reader = Check.reading("each column equal;where border rising");
        Check.throwing("place, not unrolled", IndexOutOfBoundsException.class, () -> reader.place(0, 0));
        Check.same("rows", reader.rows(3, 4), 4);
        Check.same("places", Check.places(reader, 4), "0,3,6,9 1,4,7,10 2,5,8,11 0,1,2,3,5,6,8,9,10,11");
        for (int k : new int[] {-1, 4, 4000, Integer.MIN_VALUE, Integer.MAX_VALUE}) {
            Check.throwing("place(" + k + ", 0)", IndexOutOfBoundsException.class, () -> reader.place(k, 0));
        }
        for (int i : new int[] {-1, 4, 256, Integer.MIN_VALUE, Integer.MAX_VALUE}) {
            Check.throwing("place(1, " + i + ")", IndexOutOfBoundsException.class, () -> reader.place(1, i));
        }
        Check.throwing("place(3, 10)", IndexOutOfBoundsException.class, () -> reader.place(3, 10));
        reader.rows(2, 2);
        Check.same("places over another grid", Check.places(reader, 3), "0,2 1,3 0,1,2,3");
        Check.throwing("a row of the unrolling before", IndexOutOfBoundsException.class, () -> reader.place(3, 0));
        Check.end();
    }
}
