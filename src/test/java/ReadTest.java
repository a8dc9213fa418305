/** Promise 3: how many RULES, or where the text is refused. */
public final class ReadTest {
    public static void main(String[] args) {
        rightTexts();
        wrongBytesAndNumbers();
        touchingTokens();
        wrongTokens();
        numbersOutOfBounds();
        textsThatEnd();
        depths();
        whatReadingDrops();
        Check.end();
    }

    private static void reads(String text, int rules) {
        Check.same("read of '" + text + "'", Check.holding(text).read(), rules);
    }

    private static void refuses(String text, int place) {
        RuleReader reader = Check.holding(text);
        Check.same("read of '" + text + "'", reader.read(), -1 - place);
        Check.throwing("rows of '" + text + "'", IllegalStateException.class, () -> reader.rows(1, 1));
    }

    private static void rightTexts() {
        reads("", 0);
        reads(" \n ", 0);
        reads("{}", 0);
        reads("{};{{};{}};each row{}", 0);
        reads("\n unlike \n", 1);
        reads("unlike;equal;rising;falling", 4);
        reads("sum=0;sum < 999999;sum>000007", 3);
        reads("count 0=0;count 999999<999999;count 3>\n2", 3);
        reads("given 0;given 9;given 000005", 3);
        reads("each row each column each cell each pair each side unlike", 1);
        reads("each corner each diagonal each anti equal", 1);
        reads("each block 1 1 each block 16 16 equal", 1);
        reads("each window 1 each window 256 equal", 1);
        reads("where odd where even where border where inner equal", 1);
        reads("each row{equal;where odd{rising;falling};equal};equal", 5);
        reads("each block 2 3{equal}", 1);
        reads("sum=1;".repeat(332) + "sum=1", 333);
    }

    private static void wrongBytesAndNumbers() {
        refuses("Unlike", 0);
        refuses("unlike?", 6);
        refuses("unlike\t", 6);
        refuses("unlike\r\n", 6);
        refuses("unlike;\u0000", 7);
        refuses("unlike;\u00ff", 7);
        refuses("unlike ;-1", 8);
        refuses("sum = 1000000", 6);
        refuses("sum = 0000001", 6);
        refuses("count 12345678 = 1", 6);
        refuses("each window 99999999999999999999 equal", 12);
        refuses("sum = 12 ?", 9);
    }

    private static void touchingTokens() {
        refuses("given5", 5);
        refuses("count5=1", 5);
        refuses("each block2 2 equal", 10);
        refuses("each window 2equal", 13);
        refuses("each block 2 2equal", 14);
        refuses("each window1234567 equal", 11);
        // The first wrong thing counts, not the first that touches.
        refuses("nonsense5", 0);
        refuses("each window 300equal", 12);
    }

    private static void wrongTokens() {
        refuses("unlik", 0);
        refuses("unlikee", 0);
        refuses("enlike", 0);
        refuses("each rowz equal", 5);
        refuses("each arow equal", 5);
        refuses("row", 0);
        refuses("odd", 0);
        refuses("5", 0);
        refuses(";", 0);
        refuses("}", 0);
        refuses("=", 0);
        refuses("unlike equal", 7);
        refuses("unlike;;equal", 7);
        refuses("{;}", 1);
        refuses("{unlike;}", 8);
        refuses("{unlike}}", 8);
        refuses("{unlike} equal", 9);
        refuses("unlike {}", 7);
        refuses("each each row equal", 5);
        refuses("each odd equal", 5);
        refuses("each unlike", 5);
        refuses("each {unlike}", 5);
        refuses("where row equal", 6);
        refuses("each row ; equal", 9);
        refuses("{each row}", 9);
        refuses("each row 3 equal", 9);
        refuses("each block equal", 11);
        refuses("each block 2 equal", 13);
        refuses("each block 2 2 2 equal", 15);
        refuses("each window equal", 12);
        refuses("where odd 1 equal", 10);
        refuses("sum 3", 4);
        refuses("sum = = 3", 6);
        refuses("sum = unlike", 6);
        refuses("sum ; 3", 4);
        refuses("count = 3", 6);
        refuses("count 3 4 = 3", 8);
        refuses("count 3 = ;", 10);
        refuses("given = 3", 6);
        refuses("given equal", 6);
        refuses("unlike 3", 7);
    }

    private static void numbersOutOfBounds() {
        refuses("each block 0 1 equal", 11);
        refuses("each block 17 1 equal", 11);
        refuses("each block 1 0 equal", 13);
        refuses("each block 1 17 equal", 13);
        refuses("each window 0 equal", 12);
        refuses("each window 257 equal", 12);
        refuses("given 10", 6);
        refuses("given 999999", 6);
    }

    private static void textsThatEnd() {
        refuses("each", 4);
        refuses("each  \n", 7);
        refuses("each row", 8);
        refuses("each block", 10);
        refuses("each block 1", 12);
        refuses("each block 1 1", 14);
        refuses("each window", 11);
        refuses("where", 5);
        refuses("where odd", 9);
        refuses("sum", 3);
        refuses("sum=", 4);
        refuses("count", 5);
        refuses("count 1", 7);
        refuses("count 1 <", 9);
        refuses("given", 5);
        refuses("{", 1);
        refuses("{unlike", 7);
        refuses("unlike;", 7);
        refuses("unlike; ", 8);
        refuses("sum=1;".repeat(333), 1998);
    }

    private static void depths() {
        reads("{".repeat(40) + "}".repeat(40), 0);
        reads("{".repeat(40) + "equal;equal" + "}".repeat(40), 2);
        reads("each row ".repeat(40) + "equal", 1);
        reads("where odd ".repeat(40) + "equal", 1);
        reads("each row{".repeat(20) + "equal" + "}".repeat(20) + ";each row equal", 2);
        refuses("{".repeat(41) + "}".repeat(41), 40);
        refuses("{".repeat(41), 40);
        refuses("{".repeat(40), 40);
        refuses("each row ".repeat(41) + "equal", 360);
        refuses("where odd ".repeat(41) + "equal", 400);
        refuses("{".repeat(40) + "each row equal" + "}".repeat(40), 40);
        refuses("{".repeat(40) + "where odd equal" + "}".repeat(40), 40);
        refuses("{".repeat(39) + "each row {equal}" + "}".repeat(39), 48);
        // What is 41 deep, but wrong before that.
        refuses("{".repeat(39) + "each odd {equal}" + "}".repeat(39), 44);
    }

    private static void whatReadingDrops() {
        RuleReader reader = Check.reading("each row {given 4}");
        reader.rows(2, 2);
        Check.same("read again", reader.read(), 1);
        Check.throwing("row behind read", IndexOutOfBoundsException.class, () -> reader.row(0, 0));
        Check.throwing("place behind read", IndexOutOfBoundsException.class, () -> reader.place(0, 0));
        Check.same("free behind read", reader.free(0), -1);
        reader.rows(2, 2);
        reader.unit('?');
        Check.same("read of a wrong text", reader.read(), -19);
        Check.same("depth", reader.depth(), 0);
        Check.same("given", reader.given(4), 0);
        Check.same("write", reader.write(0), -1);
        Check.same("free", reader.free(0), -1);
        Check.throwing("line", IndexOutOfBoundsException.class, () -> reader.line(0));
        Check.throwing("row", IndexOutOfBoundsException.class, () -> reader.row(0, 0));
        Check.throwing("rows", IllegalStateException.class, () -> reader.rows(2, 2));
        Check.same("read again", reader.read(), -19);
    }
}
