/** Promise 2: a byte comes behind the text, unless it is none or there are 2,000. */
public final class UnitTest {
    public static void main(String[] args) {
        wrongBytesDoNothing();
        everyByteIsTaken();
        bytesComeBehindTheText();
        thereAreTwoThousand();
        Check.end();
    }

    private static void wrongBytesDoNothing() {
        RuleReader reader = Check.holding("unl");
        for (int u : new int[] {-1, 256, 300, -256, 256 + 'x', Integer.MIN_VALUE, Integer.MAX_VALUE}) {
            Check.same("unit(" + u + ")", reader.unit(u), false);
        }
        Check.feed(reader, "ike");
        Check.same("read behind wrong bytes", reader.read(), 1);
    }

    private static void everyByteIsTaken() {
        RuleReader reader = new RuleReader();
        for (int u = 0; u <= 255; u++) {
            Check.same("unit(" + u + ")", reader.unit(u), true);
        }
        Check.same("read of all bytes", reader.read(), -1);
    }

    private static void bytesComeBehindTheText() {
        RuleReader reader = Check.reading("sum=1");
        Check.feed(reader, "2;equal");
        Check.same("what is read stays", Check.printed(reader), "sum = 1");
        Check.same("read anew", reader.read(), 2);
        Check.same("printed anew", Check.printed(reader), "sum = 12 ; equal");
    }

    private static void thereAreTwoThousand() {
        RuleReader reader = new RuleReader();
        for (int i = 0; i < 2000; i++) {
            Check.same("unit number " + i, reader.unit(' '), true);
        }
        Check.same("one byte more", reader.unit('x'), false);
        Check.same("a wrong one more", reader.unit(-1), false);
        Check.same("read of 2,000 blanks", reader.read(), 0);
        reader.clear();
        Check.same("behind clear", reader.unit(';'), true);
        Check.same("read behind clear", reader.read(), -1);
    }
}
