import java.util.ArrayList;
import java.util.List;

/** The terms GRAMMAR and RULES, sentence by sentence. */
public final class GrammarTermTest {
    private static final String GRAMMAR = "Terms: GRAMMAR";
    private static final List<String> PLAIN_SHAPES = List.of("row", "column", "cell", "pair", "side", "corner",
            "diagonal", "anti");
    private static final List<String> PLAIN_RULES = List.of("unlike", "equal", "rising", "falling");

    public static void main(String[] args) {
        Check.sentence(GRAMMAR, "a text is a GROUP and THE END", GrammarTermTest::nothingBehindTheGroup);
        Check.sentence(GRAMMAR, "A GROUP is any number of STATEMENTS, a sign ; between two of them",
                GrammarTermTest::anyNumberOfStatements);
        Check.sentence(GRAMMAR, "(and none behind the last one", GrammarTermTest::noSignBehindTheLast);
        Check.sentence(GRAMMAR, "a GROUP may have none)", GrammarTermTest::groupsOfNoStatement);
        Check.sentence(GRAMMAR, "each SHAPE STATEMENT", GrammarTermTest::eachHasAShapeAndAStatement);
        Check.sentence(GRAMMAR, "where FILTER STATEMENT", GrammarTermTest::whereHasAFilterAndAStatement);
        Check.sentence(GRAMMAR, "{ GROUP }", GrammarTermTest::bracesArePairs);
        Check.sentence(GRAMMAR, "SHAPE: row, column, block with two numbers 1 to 16, cell, pair, window with a "
                + "number 1 to 256, side, corner, diagonal, anti", GrammarTermTest::wordsOfShapes);
        Check.sentence(GRAMMAR, "block with two numbers 1 to 16", GrammarTermTest::numbersOfBlock);
        Check.sentence(GRAMMAR, "window with a number 1 to 256", GrammarTermTest::numberOfWindow);
        Check.sentence(GRAMMAR, "FILTER: odd, even, border, inner", GrammarTermTest::wordsOfFilters);
        Check.sentence(GRAMMAR, "RULE: unlike; equal; rising; falling", GrammarTermTest::rulesWithoutNumbers);
        Check.sentence(GRAMMAR, "sum with a COMPARISON and a number", GrammarTermTest::partsOfSum);
        Check.sentence(GRAMMAR, "count with a number, a COMPARISON and a number", GrammarTermTest::partsOfCount);
        Check.sentence(GRAMMAR, "given with a number 0 to 9", GrammarTermTest::numberOfGiven);
        Check.sentence(GRAMMAR, "A COMPARISON is = or < or >", GrammarTermTest::comparisons);
        Check.sentence("Terms: RULES", "The statements that are told of are the RULES, by numbers from 0 on "
                + "as they stand in the text", GrammarTermTest::rulesByNumbersFromZero);
        Check.end();
    }

    private static void nothingBehindTheGroup() {
        Check.reads("equal", 1);
        Check.refuses("}", 0);
        Check.refuses("equal}", 5);
        Check.refuses("{}}", 2);
        Check.refuses("{equal}}", 7);
        Check.refuses("equal equal", 6);
        Check.refuses("equal {}", 6);
        Check.refuses("equal 1", 6);
    }

    private static void anyNumberOfStatements() {
        for (int count : new int[] {1, 2, 3, 40, 41, 80}) {
            Check.reads(Check.times("equal", count), count);
            Check.reads("{" + Check.times("equal", count) + "}", count);
        }
        Check.reads(Check.times("{}", 160), 0);
        Check.refuses("equal rising", 6);
        Check.refuses("{equal rising}", 7);
        Check.refuses("{equal}{equal}", 7);
        Check.refuses("equal;rising equal", 13);
    }

    private static void noSignBehindTheLast() {
        Check.refuses("equal;", 6);
        Check.refuses("equal; \n", 8);
        Check.refuses("{equal;}", 7);
        Check.refuses("{};", 3);
        Check.refuses("{{};}", 4);
        Check.refuses("each row equal;", 15);
        Check.refuses("equal;;equal", 6);
        Check.refuses(";equal", 0);
        Check.refuses("{;equal}", 1);
        Check.refuses(";", 0);
        Check.refuses("{;}", 1);
    }

    private static void groupsOfNoStatement() {
        Check.reads("", 0);
        Check.reads(" ", 0);
        Check.reads("{}", 0);
        Check.reads("{ }", 0);
        Check.reads("{{}}", 0);
        Check.reads("{};{};equal", 1);
        Check.reads("equal;{}", 1);
        Check.reads("each row{}", 0);
        Check.reads("where odd{}", 0);
    }

    private static void eachHasAShapeAndAStatement() {
        Check.reads("each row equal", 1);
        Check.reads("each row each row equal", 1);
        Check.reads("each row where odd equal", 1);
        Check.reads("each row {}", 0);
        Check.refuses("each", 4);
        Check.refuses("each equal", 5);
        Check.refuses("each {equal}", 5);
        Check.refuses("each row", 8);
        Check.refuses("each row;equal", 8);
        Check.refuses("{each row}", 9);
        Check.refuses("each row row equal", 9);
        Check.reads("each row equal;equal", 2);
    }

    private static void whereHasAFilterAndAStatement() {
        Check.reads("where odd equal", 1);
        Check.reads("where odd where odd equal", 1);
        Check.reads("where odd each row equal", 1);
        Check.reads("where odd {}", 0);
        Check.refuses("where", 5);
        Check.refuses("where equal", 6);
        Check.refuses("where {equal}", 6);
        Check.refuses("where odd", 9);
        Check.refuses("where odd;equal", 9);
        Check.refuses("{where odd}", 10);
        Check.refuses("where odd odd equal", 10);
    }

    private static void bracesArePairs() {
        Check.reads("{{{equal}}}", 1);
        Check.reads("{equal;{rising;{}};falling}", 3);
        Check.refuses("{", 1);
        Check.refuses("{equal", 6);
        Check.refuses("{{equal}", 8);
        Check.refuses("{equal}}", 7);
    }

    private static List<String> allWords() {
        List<String> words = new ArrayList<>(List.of("each", "where"));
        words.addAll(Naive.SHAPES);
        words.addAll(Naive.FILTERS);
        words.addAll(Naive.KINDS);
        return words;
    }

    private static void wordsOfShapes() {
        for (String shape : PLAIN_SHAPES) {
            Check.reads("each " + shape + " equal", 1);
            Check.refuses("each " + shape + " 1 equal", 6 + shape.length());
            Check.refuses(shape, 0);
        }
        Check.reads("each block 1 1 equal", 1);
        Check.reads("each window 1 equal", 1);
        for (String word : allWords()) {
            if (!Naive.SHAPES.contains(word)) {
                Check.refuses("each " + word + " equal", 5);
            }
        }
    }

    private static void numbersOfBlock() {
        for (int number = 1; number <= 16; number++) {
            Check.reads("each block " + number + " 1 equal", 1);
            Check.reads("each block 1 " + number + " equal", 1);
        }
        for (String number : new String[] {"0", "17", "00", "000017", "256", "65537", "999999"}) {
            Check.refuses("each block " + number + " 1 equal", 11);
            Check.refuses("each block 1 " + number + " equal", 13);
        }
        Check.reads("each block 16 16 equal", 1);
        Check.reads("each block 000016 000001 equal", 1);
        Check.refuses("each block equal", 11);
        Check.refuses("each block 1 equal", 13);
        Check.refuses("each block 1 1 1 equal", 15);
    }

    private static void numberOfWindow() {
        for (int number = 1; number <= 256; number++) {
            Check.reads("each window " + number + " equal", 1);
        }
        for (String number : new String[] {"0", "257", "000000", "000257", "65537", "999999"}) {
            Check.refuses("each window " + number + " equal", 12);
        }
        Check.reads("each window 000256 equal", 1);
        Check.refuses("each window equal", 12);
        Check.refuses("each window 1 1 equal", 14);
    }

    private static void wordsOfFilters() {
        for (String filter : Naive.FILTERS) {
            Check.reads("where " + filter + " equal", 1);
            Check.refuses("where " + filter + " 1 equal", 7 + filter.length());
            Check.refuses(filter, 0);
        }
        for (String word : allWords()) {
            if (!Naive.FILTERS.contains(word)) {
                Check.refuses("where " + word + " equal", 6);
            }
        }
    }

    private static void rulesWithoutNumbers() {
        for (String rule : PLAIN_RULES) {
            Check.reads(rule, 1);
            Check.refuses(rule + " 1", rule.length() + 1);
            Check.refuses(rule + "=1", rule.length());
        }
    }

    private static void partsOfSum() {
        Check.reads("sum=0", 1);
        Check.reads("sum=999999", 1);
        Check.refuses("sum", 3);
        Check.refuses("sum 1", 4);
        Check.refuses("sum=", 4);
        Check.refuses("sum=equal", 4);
        Check.refuses("sum 1=1", 4);
        Check.refuses("sum=1 1", 6);
        Check.refuses("sum=1=1", 5);
    }

    private static void partsOfCount() {
        Check.reads("count 0=0", 1);
        Check.reads("count 999999=999999", 1);
        Check.refuses("count", 5);
        Check.refuses("count=1", 5);
        Check.refuses("count 1", 7);
        Check.refuses("count 1 1", 8);
        Check.refuses("count 1=", 8);
        Check.refuses("count 1=equal", 8);
        Check.refuses("count 1=1 1", 10);
        Check.refuses("count 1000000=1", 6);
        Check.refuses("count 1=1000000", 8);
    }

    private static void numberOfGiven() {
        for (int number = 0; number <= 9; number++) {
            Check.reads("given " + number, 1);
            Check.reads("given 00000" + number, 1);
        }
        for (String number : new String[] {"10", "11", "000010", "99", "256", "999999"}) {
            Check.refuses("given " + number, 6);
        }
        Check.refuses("given", 5);
        Check.refuses("given=1", 5);
        Check.refuses("given 1 1", 8);
    }

    private static void comparisons() {
        for (String sign : Naive.COMPARISONS) {
            Check.reads("sum" + sign + "1", 1);
            Check.reads("count 1" + sign + "1", 1);
        }
        for (String sign : new String[] {";", "{", "}", "1", "equal", "!", "?", "+"}) {
            Check.refuses("sum " + sign + " 1", 4);
            Check.refuses("count 1 " + sign + " 1", 8);
        }
    }

    private static void rulesByNumbersFromZero() {
        Reader reader = Check.holding("each row{unlike;where odd{equal}};{};rising");
        Check.same("each, where and { are not told of", reader.read(), 3);
        Check.same("line(0)", reader.line(0), 9);
        Check.same("line(1)", reader.line(1), 26);
        Check.same("line(2)", reader.line(2), 37);
        reader.rows(1, 2);
        Check.same("rows", Check.places(reader), "0 1 1 0,1");
        int[] due = {0, 0, 1, 2};
        for (int k = 0; k < due.length; k++) {
            Check.same("row(" + k + ", 0)", reader.row(k, 0), due[k]);
        }
    }
}
