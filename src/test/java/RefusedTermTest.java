import java.util.ArrayList;
import java.util.List;

/** The term REFUSED, sentence by sentence. */
public final class RefusedTermTest {
    private static final String REFUSED = "Terms: REFUSED";
    private static final List<String> SIGNS = List.of(";", "{", "}", "=", "<", ">");
    private static final List<String> NUMBERS = List.of("0", "1", "9", "10", "16", "17", "256", "257", "999999");

    public static void main(String[] args) {
        Check.sentence(REFUSED, "the first of these along the text", RefusedTermTest::theFirstAlongTheText);
        Check.sentence(REFUSED, "a byte that begins no token", RefusedTermTest::everyByteAtTheBeginning);
        Check.sentence(REFUSED, "a byte that begins no token", RefusedTermTest::everyByteBehindAStatement);
        Check.sentence(REFUSED, "a number of 7 digits or more (at its first byte)", RefusedTermTest::sevenDigits);
        Check.sentence(REFUSED, "of a word and a number that touch the second one", RefusedTermTest::touching);
        Check.sentence(REFUSED, "a token (or THE END) that may not be there, also a number that is not in its bounds",
                RefusedTermTest::everyTokenEverywhere);
        Check.sentence(REFUSED, "a token (or THE END) that may not be there, also a number that is not in its bounds",
                RefusedTermTest::numbersThatAreSignsBytes);
        Check.sentence(REFUSED, "an each, where or { that would be 41 deep", RefusedTermTest::tooDeep);
        Check.sentence(REFUSED, "Of a text that ends within a statement the place is that of THE END",
                RefusedTermTest::textsThatEnd);
        Check.end();
    }

    /** Each two kinds of faults, both ways round. */
    private static void theFirstAlongTheText() {
        Check.refuses("equal ? 1234567", 6);
        Check.refuses("equal;1234567 ?", 6);
        Check.refuses("sum=1234567;?", 4);
        Check.refuses("given5 ?", 5);
        Check.refuses("? given5", 0);
        Check.refuses("given5;sum=1234567", 5);
        Check.refuses("sum=1234567;given5", 4);
        Check.refuses("equal equal ?", 6);
        Check.refuses("equal ? equal", 6);
        Check.refuses("given 10;given5", 6);
        Check.refuses("given5;given 10", 5);
        Check.refuses("nonsense5", 0);
        Check.refuses("each window 257equal", 12);
        Check.refuses("each window 256equal", 15);
        Check.refuses("each window 0;" + "{".repeat(41), 12);
        Check.refuses("{".repeat(41) + "?", 40);
        Check.refuses("{".repeat(40) + "?{", 40);
        Check.refuses("{".repeat(39) + "each odd {", 44);
        Check.refuses("{".repeat(40) + "each odd {", 40);
        Check.refuses("each odd", 5);
        Check.refuses("equal;;", 6);
    }

    private static boolean isIn(String bytes, int b) {
        return bytes.indexOf(b) >= 0;
    }

    private static void everyByteAtTheBeginning() {
        for (int b = 0; b <= 255; b++) {
            String text = Character.toString((char) b);
            if (isIn(" \n", b)) {
                Check.reads(text, 0);
            } else {
                Check.refuses(text, b == '{' ? 1 : 0);
            }
        }
    }

    private static void everyByteBehindAStatement() {
        for (int b = 0; b <= 255; b++) {
            String text = "{equal " + (char) b + ";equal}";
            if (isIn(" \n", b)) {
                Check.reads(text, 2);
            } else {
                Check.refuses(text, b == ';' ? 8 : b == '}' ? 14 : 7);
            }
        }
    }

    private static void sevenDigits() {
        Check.reads("sum=123456", 1);
        Check.reads("sum=000000", 1);
        for (String number : new String[] {"1234567", "0000000", "0000001", "12345678", "9".repeat(100)}) {
            Check.refuses("sum=" + number, 4);
            Check.refuses("sum = " + number, 6);
            Check.refuses("count " + number + "=1", 6);
            Check.refuses("count 1=" + number, 8);
            Check.refuses("given " + number, 6);
            Check.refuses("each window " + number + " equal", 12);
            Check.refuses("each block " + number + " 1 equal", 11);
            Check.refuses("each block 1 " + number + " equal", 13);
            Check.refuses("equal;" + number, 6);
            Check.refuses("sum=" + number + "?", 4);
        }
    }

    private static void touching() {
        Check.refuses("given5", 5);
        Check.refuses("given0", 5);
        Check.refuses("count5=1", 5);
        Check.refuses("each window5 equal", 11);
        Check.refuses("each window1234567 equal", 11);
        Check.refuses("each window5equal", 11);
        Check.refuses("each block1 1 equal", 10);
        Check.refuses("each window 5equal", 13);
        Check.refuses("each window 5each row equal", 13);
        Check.refuses("each block 1 1equal", 14);
        Check.refuses("each block 1 1where odd equal", 14);
        Check.refuses("given 5equal", 7);
        Check.refuses("given 5x", 7);
        Check.reads("each window 5{given 5;given 5}", 2);
    }

    /** What may stand behind some text; everything else must be refused there. */
    private static void everyTokenEverywhere() {
        List<String> beginnings = new ArrayList<>(List.of("each", "where", "{"));
        beginnings.addAll(Naive.KINDS);
        List<String> bounds1To16 = List.of("1", "9", "10", "16");
        List<String> bounds1To256 = List.of("1", "9", "10", "16", "17", "256");
        mayStandBehind("", true, beginnings);
        mayStandBehind("{", false, with(beginnings, "}"));
        mayStandBehind("{{", false, with(beginnings, "}"));
        mayStandBehind("equal;", false, beginnings);
        mayStandBehind("{equal;", false, beginnings);
        for (String statement : new String[] {"unlike", "equal", "rising", "falling", "sum = 1", "count 1 < 1",
            "given 1", "{ }", "{ equal }", "each row equal", "where odd { }"}) {
            mayStandBehind(statement, true, List.of(";"));
            mayStandBehind("{" + statement, false, List.of(";", "}"));
            mayStandBehind("each row {" + statement, false, List.of(";", "}"));
        }
        mayStandBehind("each", false, Naive.SHAPES);
        mayStandBehind("where", false, Naive.FILTERS);
        for (String layer : new String[] {"each row", "each column", "each block 1 1", "each cell", "each pair",
            "each window 1", "each side", "each corner", "each diagonal", "each anti", "where odd", "where even",
            "where border", "where inner"}) {
            mayStandBehind(layer, false, beginnings);
            mayStandBehind("{" + layer, false, beginnings);
        }
        mayStandBehind("each block", false, bounds1To16);
        mayStandBehind("each block 1", false, bounds1To16);
        mayStandBehind("each window", false, bounds1To256);
        mayStandBehind("sum", false, Naive.COMPARISONS);
        mayStandBehind("count 1", false, Naive.COMPARISONS);
        for (String before : new String[] {"sum =", "sum <", "sum >", "count", "count 1 =", "count 1 <", "count 1 >"}) {
            mayStandBehind(before, false, NUMBERS);
        }
        mayStandBehind("given", false, List.of("0", "1", "9"));
        mayStandBehind("{".repeat(40), false, with(Naive.KINDS, "}"));
        mayStandBehind("{".repeat(39) + "each row", false, Naive.KINDS);
    }

    private static List<String> with(List<String> tokens, String more) {
        List<String> all = new ArrayList<>(tokens);
        all.add(more);
        return all;
    }

    private static void mayStandBehind(String before, boolean theEnd, List<String> allowed) {
        List<String> tokens = new ArrayList<>(List.of("each", "where", "nonsense"));
        tokens.addAll(Naive.SHAPES);
        tokens.addAll(Naive.FILTERS);
        tokens.addAll(Naive.KINDS);
        tokens.addAll(SIGNS);
        tokens.addAll(NUMBERS);
        for (String token : tokens) {
            String text = before + " " + token;
            int answer = Check.holding(text).read();
            Check.same("read of '" + text + "' (" + answer + ") refuses the last token",
                    answer == -1 - (before.length() + 1), !allowed.contains(token));
        }
        int answer = Check.holding(before + " ").read();
        Check.same("read of '" + before + " ' (" + answer + ") refuses THE END",
                answer == -1 - (before.length() + 1), !theEnd);
    }

    private static void numbersThatAreSignsBytes() {
        for (char sign : ";{}=<>".toCharArray()) {
            String number = Integer.toString(sign);
            Check.refuses(number, 0);
            Check.refuses("equal " + number + " equal", 6);
            Check.refuses("{equal " + number, 7);
            Check.refuses("each row " + number + " equal}", 9);
            Check.refuses("sum " + number + " 1", 4);
            Check.refuses("count 1 " + number + " 1", 8);
        }
    }

    private static void tooDeep() {
        String forty = "{".repeat(40);
        Check.refuses(forty + "{", 40);
        Check.refuses(forty + "each row equal", 40);
        Check.refuses(forty + "where odd equal", 40);
        Check.refuses(forty + " \n each row equal", 43);
        Check.refuses(forty + "equal;each row equal", 46);
        Check.refuses(forty + "equal;where odd equal", 46);
        Check.refuses(forty + "equal;{}", 46);
        Check.reads(forty + "equal" + "}".repeat(40), 1);
        Check.reads("{".repeat(39) + "each row equal" + "}".repeat(39), 1);
        Check.reads("{".repeat(39) + "where odd equal" + "}".repeat(39), 1);
    }

    /** Every text that stops between two tokens of a statement, with blanks behind and without. */
    private static void textsThatEnd() {
        String[] statements = {"each row equal", "each block 1 1 equal", "each window 1 equal", "where odd equal",
            "sum = 1", "count 1 < 1", "given 1", "{ }", "{ equal }", "{ equal ; equal }", "each row { each cell equal }"};
        for (String statement : statements) {
            for (int end = statement.indexOf(' '); end >= 0; end = statement.indexOf(' ', end + 1)) {
                String before = statement.substring(0, end);
                Check.refuses(before, end);
                Check.refuses(before + " ", end + 1);
                Check.refuses(before + "\n\n ", end + 3);
                Check.refuses("equal;" + before, end + 6);
            }
        }
        Check.refuses("equal;", 6);
        Check.refuses("{equal", 6);
        Check.reads("equal", 1);
    }
}
