/** Promise 9, sentence by sentence. */
public final class LineTest {
    private static final String PROMISE = "Promise 9: line";

    public static void main(String[] args) {
        Check.sentence(PROMISE, "The place in the text of RULE n's word", LineTest::placesOfWords);
        Check.sentence(PROMISE, "IndexOutOfBoundsException: there is no such RULE", LineTest::noSuchRule);
        Check.end();
    }

    private static void placesOfWords() {
        Reader reader = Check.reading(" unlike;each row\n{sum = 3 ;\ncount 1<2};given 5");
        int[] due = {1, 18, 28, 39};
        for (int n = 0; n < due.length; n++) {
            Check.same("line(" + n + ")", reader.line(n), due[n]);
        }
        reader.clear();
        Check.same("line(3) behind clear", reader.line(3), 39);
        Check.same("line(0) of the first byte", Check.reading("equal").line(0), 0);
        Check.same("line(0) behind 500 blanks", Check.reading(" ".repeat(500) + "equal").line(0), 500);
        // Not of the each or where around it.
        Check.same("line(0) behind each", Check.reading("each row equal").line(0), 9);
        Check.same("line(0) behind where", Check.reading("where odd{equal}").line(0), 10);
        Check.same("line(83)", Check.reading(Check.times("equal", 84)).line(83), 83 * 6);
    }

    private static void noSuchRule() {
        Reader reader = new Reader();
        Check.outside("line of a new object", 0, reader::line);
        Check.feed(reader, "equal;rising");
        Check.outside("line of a text that is not read", 0, reader::line);
        reader.read();
        Check.same("line(1)", reader.line(1), 6);
        Check.outside("line of two RULES", 2, reader::line);
        reader.unit(';');
        reader.read();
        Check.outside("line of a refused text", 0, reader::line);
        reader.clear();
        Check.feed(reader, "equal");
        reader.read();
        Check.same("line(0) of one RULE", reader.line(0), 0);
        Check.outside("line of one RULE", 1, reader::line);
        Check.outside("line of no RULE", 0, Check.reading("each row{}")::line);
        Check.outside("line of 84 RULES", 84, Check.reading(Check.times("equal", 84))::line);
    }
}
