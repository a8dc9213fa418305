import java.util.Random;

/** Any calls with any numbers in any order throw nothing but what the document names. */
public final class AnyCallsTest {
    private static final int[] EDGES = {Integer.MIN_VALUE, Integer.MAX_VALUE, -1, 0, 1, 2, 5, 6, 9, 10, 15, 16,
        17, 255, 256, 257, 399, 400, 1999, 2000, 3999, 4000, 4001, 6000, 29999, 30000};

    public static void main(String[] args) {
        Random random = new Random(7L);
        Texts texts = new Texts(random);
        for (int object = 0; object < 2000; object++) {
            RuleReader reader = new RuleReader();
            int calls = 0;
            while (calls < Reader.MOST_CALLS) {
                String text = texts.group(random.nextInt(5));
                boolean fits = calls + text.length() + 2 <= Reader.MOST_CALLS;
                calls += fits && random.nextInt(6) == 0 ? anyText(reader, text) : anyCall(reader, random);
            }
        }
        Check.end();
    }

    private static int any(Random random) {
        return random.nextInt(4) == 0 ? EDGES[random.nextInt(EDGES.length)] : random.nextInt(20);
    }

    /** Reads a new text; tells how many calls that were. */
    private static int anyText(RuleReader reader, String text) {
        reader.clear();
        for (char c : text.toCharArray()) {
            reader.unit(c);
        }
        reader.read();
        return text.length() + 2;
    }

    /** Makes one call; tells that it was one. */
    private static int anyCall(RuleReader reader, Random random) {
        int a = any(random);
        int b = any(random);
        switch (random.nextInt(11)) {
            case 0:
                reader.unit(random.nextInt(300) - 20);
                break;
            case 1:
                reader.read();
                break;
            case 2:
                allows(Check.outcome(() -> reader.rows(a, b)), "IllegalStateException",
                        "IllegalArgumentException", "UnsupportedOperationException");
                break;
            case 3:
                allows(Check.outcome(() -> reader.row(a, b)), "IndexOutOfBoundsException");
                break;
            case 4:
                allows(Check.outcome(() -> reader.place(a, b)), "IndexOutOfBoundsException");
                break;
            case 5:
                allows(Check.outcome(() -> reader.line(a)), "IndexOutOfBoundsException");
                break;
            case 6:
                reader.free(a);
                break;
            case 7:
                reader.given(a);
                break;
            case 8:
                reader.write(a);
                break;
            case 9:
                reader.depth();
                break;
            default:
                reader.clear();
                break;
        }
        return 1;
    }

    private static void allows(String outcome, String... names) {
        boolean fine = !outcome.startsWith("throws ");
        for (String name : names) {
            fine |= outcome.equals("throws " + name);
        }
        Check.same("a call that " + outcome, fine, true);
    }
}
