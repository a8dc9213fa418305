/** The example of README.md, line by line, with the answers that it tells. */
public final class ReadmeTest {
    private ReadmeTest() {
    }

    public static void main(String[] args) {
        RuleReader reader = new RuleReader();
        for (char c : "each row unlike; where odd sum < 9".toCharArray()) {
            reader.unit(c);
        }
        Check.same("read()", reader.read(), 2);
        Check.same("rows(3, 2)", reader.rows(3, 2), 3);
        Check.same("row(2, 1)", reader.row(2, 1), 4);
        Check.same("place(2, 0)", reader.place(2, 0), 1);
        Check.same("free(0)", reader.free(0), -1);
        Check.same("write(0)", reader.write(0), 'e');
        StringBuilder printed = new StringBuilder();
        for (int i = 0; reader.write(i) >= 0; i++) {
            printed.append((char) reader.write(i));
        }
        Check.same("what is printed", printed.toString(), "each row unlike ; where odd sum < 9");
        Check.end();
    }
}
