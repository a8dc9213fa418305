/** The terms TOKENS, PLACE and THE END, sentence by sentence. */
public final class TokensTermTest {
    private static final String TOKENS = "Terms: TOKENS";

    public static void main(String[] args) {
        Check.sentence(TOKENS, "words of the letters a to z", TokensTermTest::lettersOfWords);
        Check.sentence(TOKENS, "words of the letters a to z", TokensTermTest::wordsAreWhole);
        Check.sentence(TOKENS, "numbers of 1 to 6 digits 0 to 9", TokensTermTest::digitsOfNumbers);
        Check.sentence(TOKENS, "numbers of 1 to 6 digits 0 to 9", TokensTermTest::oneToSixDigits);
        Check.sentence(TOKENS, "and the signs ; { } = < > each by itself", TokensTermTest::signsByThemselves);
        Check.sentence(TOKENS, "between two of them there may be blanks (byte 32) and line ends (byte 10)",
                TokensTermTest::noOneOrManyBetween);
        Check.sentence(TOKENS, "between two of them there may be blanks (byte 32) and line ends (byte 10)",
                TokensTermTest::noOtherByteBetween);
        Check.sentence(TOKENS, "between two of them there may be blanks (byte 32) and line ends (byte 10)",
                TokensTermTest::beforeTheFirstAndBehindTheLast);
        Check.sentence(TOKENS, "and there must be one between two words", TokensTermTest::betweenTwoWords);
        Check.sentence(TOKENS, "two numbers", TokensTermTest::betweenTwoNumbers);
        Check.sentence(TOKENS, "or a word and a number", TokensTermTest::betweenAWordAndANumber);
        Check.sentence("Terms: PLACE", "The PLACE of a token is that of its first byte, from 0 on",
                TokensTermTest::placeOfTheFirstByte);
        Check.sentence("Terms: THE END", "behind the last one is THE END, whose place is how many bytes there are",
                TokensTermTest::placeOfTheEnd);
        Check.end();
    }

    private static boolean isLetter(int b) {
        return b >= 'a' && b <= 'z';
    }

    private static boolean isDigit(int b) {
        return b >= '0' && b <= '9';
    }

    private static boolean isBetween(int b) {
        return b == 32 || b == 10;
    }

    /** A letter makes another word, which is refused at its first byte; every other byte does not. */
    private static void lettersOfWords() {
        for (int b = 0; b <= 255; b++) {
            String text = "unlike" + (char) b;
            if (isLetter(b)) {
                Check.refuses(text, 0);
            } else if (isBetween(b)) {
                Check.reads(text, 1);
            } else {
                Check.refuses(text, b == ';' ? 7 : 6);
            }
        }
    }

    private static void wordsAreWhole() {
        Check.refuses("unlik", 0);
        Check.refuses("unlikea", 0);
        Check.refuses("nlike", 0);
        Check.refuses("aunlike", 0);
        Check.refuses("unlikeunlike", 0);
        Check.refuses("un like", 0);
        Check.refuses("each ro unlike", 5);
        Check.refuses("each rowz unlike", 5);
        Check.refuses("Unlike", 0);
        Check.refuses("unlikE", 0);
        Check.refuses("UNLIKE", 0);
    }

    private static void digitsOfNumbers() {
        for (int b = 0; b <= 255; b++) {
            String first = "sum=" + (char) b;
            String second = "sum=1" + (char) b;
            if (isDigit(b)) {
                Check.reads(first, 1);
                Check.reads(second, 1);
            } else if (isBetween(b)) {
                Check.refuses(first, 5);
                Check.reads(second, 1);
            } else {
                Check.refuses(first, 4);
                Check.refuses(second, b == ';' ? 6 : 5);
            }
        }
    }

    private static void oneToSixDigits() {
        for (String zeros : new String[] {"", "0", "00", "000", "0000", "00000"}) {
            Check.reads("sum=" + zeros + "7", 1);
            Check.reads("count " + zeros + "7=" + zeros + "7", 1);
            Check.reads("given " + zeros + "7", 1);
            Check.reads("each window " + zeros + "7 equal", 1);
            Check.reads("each block " + zeros + "7 " + zeros + "7 equal", 1);
        }
        Check.reads("sum=999999", 1);
        Check.refuses("sum=", 4);
        Check.refuses("sum=0000007", 4);
        Check.refuses("sum=1000000", 4);
        Check.refuses("given 0000007", 6);
        Check.refuses("each window 0000007 equal", 12);
    }

    private static void signsByThemselves() {
        prints("{{};{}}", "{ { } ; { } }");
        prints("sum=1;sum<1;sum>1", "sum = 1 ; sum < 1 ; sum > 1");
        Check.refuses("sum==1", 4);
        Check.refuses("sum<=1", 4);
        Check.refuses("sum>=1", 4);
        Check.refuses("sum<>1", 4);
        Check.refuses("equal;;equal", 6);
    }

    private static void prints(String text, String due) {
        Check.same("print of '" + text + "'", Check.printed(Check.reading(text)), due);
    }

    private static void noOneOrManyBetween() {
        String[] tokens = {"each", "block", "2", "3", "{", "sum", "=", "4", ";", "count", "5", "<", "6", "}"};
        for (String between : new String[] {" ", "\n", "  ", "\n\n", " \n", "\n \n ", " ".repeat(20)}) {
            Check.reads(String.join(between, tokens), 2);
        }
        Check.reads("each block 2 3{sum=4;count 5<6}", 2);
        Check.reads("each\nblock\n2\n3{sum=4;count\n5<6}", 2);
    }

    private static void noOtherByteBetween() {
        for (int b = 0; b <= 255; b++) {
            String text = "each" + (char) b + "row unlike";
            if (isBetween(b)) {
                Check.reads(text, 1);
            } else {
                Check.refuses(text, isLetter(b) ? 0 : 4);
            }
        }
        for (int b : new int[] {0, 9, 11, 12, 13, 31, 33, 127, 160}) {
            Check.refuses("{ " + (char) b + " }", 2);
            Check.refuses("equal ;" + (char) b + " equal", 7);
        }
    }

    /** The document does not say this; nothing that is refused is there. */
    private static void beforeTheFirstAndBehindTheLast() {
        Check.reads(" equal", 1);
        Check.reads("\nequal", 1);
        Check.reads("equal ", 1);
        Check.reads("equal\n", 1);
        Check.reads(" \n \n", 0);
    }

    private static void betweenTwoWords() {
        Check.reads("each row unlike", 1);
        Check.reads("each\nrow\nunlike", 1);
        Check.refuses("eachrow unlike", 0);
        Check.refuses("each rowunlike", 5);
        Check.refuses("where oddunlike", 6);
        Check.reads("each row{unlike}", 1);
    }

    private static void betweenTwoNumbers() {
        Check.reads("each block 1 1 equal", 1);
        Check.reads("each block 1\n1 equal", 1);
        // One number 11, so that the second one is wanting.
        Check.refuses("each block 11 equal", 14);
        // Six digits and one would be seven.
        Check.refuses("each block 0000011 equal", 11);
    }

    private static void betweenAWordAndANumber() {
        Check.reads("given 5", 1);
        Check.reads("given\n5", 1);
        Check.refuses("given5", 5);
        Check.reads("each window 2 equal", 1);
        Check.reads("each window 2\nequal", 1);
        Check.refuses("each window 2equal", 13);
        Check.refuses("each window2 equal", 11);
        Check.reads("each window 2{equal}", 1);
        Check.reads("sum=5", 1);
    }

    private static void placeOfTheFirstByte() {
        Check.refuses("nonsense", 0);
        Check.refuses(" nonsense", 1);
        Check.refuses("\n nonsense", 2);
        Check.refuses("equal nonsense", 6);
        Check.refuses("equal\nnonsense", 6);
        Check.refuses("sum = nonsense", 6);
        Check.refuses("given 123456", 6);
        Check.same("line(0) of a RULE at 0", Check.reading("equal").line(0), 0);
        Check.same("line(0) of a RULE at 1", Check.reading(" equal").line(0), 1);
        Check.same("line(1) behind a line end", Check.reading("equal;\nequal").line(1), 7);
    }

    private static void placeOfTheEnd() {
        Check.refuses("{", 1);
        Check.refuses("{ ", 2);
        Check.refuses("{\n", 2);
        Check.refuses("{ \n \n", 5);
        Check.refuses(" {", 2);
        Check.refuses("sum", 3);
        Check.refuses("sum    ", 7);
        Check.refuses("{".repeat(40) + "equal" + "}".repeat(39), 84);
    }
}
