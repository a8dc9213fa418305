/** Promise 11: the greatest DEPTH. */
public final class DepthTest {
    public static void main(String[] args) {
        isDeep("", 0);
        isDeep("unlike;equal", 0);
        isDeep("{}", 1);
        isDeep("each row unlike", 1);
        isDeep("where odd unlike", 1);
        isDeep("each row{}", 2);
        isDeep("each row where odd{unlike}", 3);
        isDeep("each row{{unlike};where odd where even equal};{rising}", 4);
        isDeep("{equal};{equal};{equal}", 1);
        isDeep("{".repeat(40) + "}".repeat(40), 40);
        isDeep("{".repeat(41) + "}".repeat(41), 0);
        isDeep("each row{equal;}", 0);
        RuleReader reader = Check.reading("{{equal}}");
        reader.clear();
        Check.same("depth behind clear", reader.depth(), 2);
        Check.feed(reader, "{equal}");
        Check.same("depth before read", reader.depth(), 2);
        reader.read();
        Check.same("depth behind read", reader.depth(), 1);
        Check.end();
    }

    private static void isDeep(String text, int due) {
        RuleReader reader = Check.holding(text);
        Check.same("depth of '" + text + "', not read", reader.depth(), 0);
        reader.read();
        Check.same("depth of '" + text + "'", reader.depth(), due);
    }
}
