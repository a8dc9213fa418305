import java.nio.charset.StandardCharsets;

/** What the tests share: feeding a text, comparing answers, and ending with 1 if one was wrong. */
final class Check {
    private static int wrong = 0;
    private static int made = 0;

    private Check() {
    }

    /** One call of the class that may throw. */
    interface Call {
        long answer();
    }

    static void same(String call, long got, long due) {
        same(call, Long.toString(got), Long.toString(due));
    }

    static void same(String call, boolean got, boolean due) {
        same(call, Boolean.toString(got), Boolean.toString(due));
    }

    static void same(String call, String got, String due) {
        made++;
        if (!got.equals(due)) {
            wrong++;
            System.out.println(call + " answered " + got + ", due is " + due);
        }
    }

    /** The call must throw exactly this exception. */
    static void throwing(String call, Class<? extends RuntimeException> due, Call made) {
        same(call, outcome(made), "throws " + due.getSimpleName());
    }

    /** The answer, or the exception's name behind "throws ". */
    static String outcome(Call call) {
        try {
            return Long.toString(call.answer());
        } catch (RuntimeException e) {
            return "throws " + e.getClass().getSimpleName();
        }
    }

    static void feed(RuleReader reader, String text) {
        for (byte b : text.getBytes(StandardCharsets.ISO_8859_1)) {
            if (!reader.unit(b & 255)) {
                throw new AssertionError("a byte was not taken: " + text);
            }
        }
    }

    /** A new object that holds the text, not read. */
    static RuleReader holding(String text) {
        RuleReader reader = new RuleReader();
        feed(reader, text);
        return reader;
    }

    /** A new object that has read the text, which must not be refused. */
    static RuleReader reading(String text) {
        RuleReader reader = holding(text);
        int answer = reader.read();
        if (answer < 0) {
            same("read of " + text, answer, 0);
        }
        return reader;
    }

    static String printed(RuleReader reader) {
        StringBuilder all = new StringBuilder();
        for (int i = 0; reader.write(i) != -1; i++) {
            all.append((char) reader.write(i));
        }
        return all.toString();
    }

    /** The unrolled rows as "0,1 2,3": the places of each one. */
    static String places(RuleReader reader, int count) {
        StringBuilder all = new StringBuilder();
        for (int k = 0; k < count; k++) {
            all.append(k > 0 ? " " : "");
            for (int i = 0; i < reader.row(k, 5); i++) {
                all.append(i > 0 ? "," : "").append(reader.place(k, i));
            }
        }
        return all.toString();
    }

    static void end() {
        if (wrong != 0) {
            System.out.println(wrong + " of " + made + " answers are not as due");
            System.exit(1);
        }
    }
}
