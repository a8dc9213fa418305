/** The term DEPTH, sentence by sentence. */
public final class DepthTermTest {
    private static final String DEPTH = "Terms: DEPTH";
    private static final String[] OPENINGS = {"each row ", "where odd ", "{"};

    public static void main(String[] args) {
        Check.sentence(DEPTH, "The DEPTH of a STATEMENT is how many each, where and { it is within",
                DepthTermTest::allThreeCount);
        Check.sentence(DEPTH, "itself counted if it is one of these", DepthTermTest::itselfCounts);
        Check.sentence(DEPTH, "at most 40", DepthTermTest::fortyOfOneSort);
        Check.sentence(DEPTH, "at most 40", DepthTermTest::fortyOfAllSorts);
        Check.sentence(DEPTH, "at most 40", DepthTermTest::fortyManyTimes);
        Check.end();
    }

    private static void isDeep(String text, int due) {
        Check.same("depth of '" + text + "'", Check.reading(text).depth(), due);
    }

    private static String closings(String opening, int count) {
        return opening.equals("{") ? "}".repeat(count) : "";
    }

    private static void allThreeCount() {
        isDeep("each row equal", 1);
        isDeep("where odd equal", 1);
        isDeep("{equal}", 1);
        isDeep("each row where odd equal", 2);
        isDeep("each row{equal}", 2);
        isDeep("{where odd equal}", 2);
        isDeep("{each row{where odd equal}}", 4);
    }

    private static void itselfCounts() {
        isDeep("equal", 0);
        isDeep("{}", 1);
        isDeep("{{}}", 2);
        isDeep("each row{}", 2);
        isDeep("where odd{}", 2);
    }

    private static void fortyOfOneSort() {
        for (String opening : OPENINGS) {
            for (int count = 39; count <= 40; count++) {
                String text = opening.repeat(count) + "equal" + closings(opening, count);
                Check.reads(text, 1);
                isDeep(text, count);
            }
            for (int count = 41; count <= 42; count++) {
                Check.refuses(opening.repeat(count) + "equal" + closings(opening, count), 40 * opening.length());
            }
        }
        Check.reads("{".repeat(40) + "}".repeat(40), 0);
        Check.refuses("{".repeat(41) + "}".repeat(41), 40);
    }

    private static void fortyOfAllSorts() {
        for (String outer : OPENINGS) {
            for (String inner : OPENINGS) {
                String before = outer.repeat(39);
                String after = closings(outer, 39);
                String deepest = before + inner + "equal" + closings(inner, 1) + after;
                Check.reads(deepest, 1);
                isDeep(deepest, 40);
                for (String last : OPENINGS) {
                    Check.refuses(before + inner + last + "equal" + closings(last, 1) + closings(inner, 1) + after,
                            before.length() + inner.length());
                }
            }
        }
    }

    /** What is closed is no longer within: a text may be 40 deep again and again. */
    private static void fortyManyTimes() {
        String deep = "{".repeat(40) + "equal;equal" + "}".repeat(40);
        Check.reads(deep + ";" + deep + ";" + deep, 6);
        isDeep(deep + ";" + deep + ";" + deep, 40);
        Check.reads("{".repeat(39) + "each row equal;where odd equal;{equal}" + "}".repeat(39), 3);
        Check.refuses(deep + ";{" + deep + "}", deep.length() + 1 + 40);
        Check.reads(Check.times("{}", 100), 0);
        isDeep(Check.times("{}", 100), 1);
    }
}
