/** Promise 10: what is read, printed. */
public final class WriteTest {
    public static void main(String[] args) {
        prints("", "");
        prints(" \n", "");
        prints("{}", "{ }");
        prints("unlike", "unlike");
        prints("\n each  row\n\nunlike ", "each row unlike");
        prints("each block 02 1{sum=007;count 3<2};where odd given 5",
                "each block 02 1 { sum = 007 ; count 3 < 2 } ; where odd given 5");
        prints("{};".repeat(80) + "{}", "{ } ; ".repeat(80) + "{ }");
        prints("each window 256 each column each cell each pair each side each corner each diagonal rising",
                "each window 256 each column each cell each pair each side each corner each diagonal rising");
        mostTokens();
        wrongPlaces();
        Check.end();
    }

    private static void prints(String text, String due) {
        RuleReader reader = Check.holding(text);
        Check.same("write of '" + text + "', not read", reader.write(0), -1);
        reader.read();
        Check.same("print of '" + text + "'", Check.printed(reader), due);
        Check.same("byte behind the print of '" + text + "'", reader.write(due.length()), -1);
    }

    private static void mostTokens() {
        String text = "{};".repeat(666) + "{}";
        RuleReader reader = Check.reading(text);
        Check.same("print of 2,000 tokens", Check.printed(reader), "{ } ; ".repeat(666) + "{ }");
    }

    private static void wrongPlaces() {
        RuleReader reader = Check.reading("equal");
        for (int i : new int[] {-1, 5, 6, 4000, Integer.MIN_VALUE, Integer.MAX_VALUE}) {
            Check.same("write(" + i + ")", reader.write(i), -1);
        }
        Check.same("write(4)", reader.write(4), 'l');
        reader.rows(1, 1);
        reader.clear();
        Check.same("print behind clear", Check.printed(reader), "equal");
        Check.feed(reader, "equal rising");
        reader.read();
        Check.same("print of a refused text", reader.write(0), -1);
    }
}
