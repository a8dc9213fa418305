import java.nio.charset.StandardCharsets;

/** What the tests share: feeding a text, comparing answers, and ending with 1 if one was wrong. */
final class Check {
    // Above all that can be asked for, so that the test of a wrong program ends too.
    private static final int MOST_ASKED = 5000;
    private static final int[] NO_INDEX = {-1, -2, Integer.MIN_VALUE, Integer.MAX_VALUE};

    private static String part = "";
    private static int wrong = 0;
    private static int made = 0;

    private Check() {
    }

    /** One call of the class that may throw. */
    interface Call {
        long answer();
    }

    /** One call of the class that may throw, with the number that it is tried with. */
    interface CallWith {
        long answer(int number);
    }

    /**
     * Runs the test of one sentence of the document. The section is the document's (a term or a
     * promise), the sentence is in the document's own words.
     */
    static void sentence(String section, String words, Runnable test) {
        part = "[" + section + " | " + words + "] ";
        try {
            test.run();
        } catch (RuntimeException | AssertionError e) {
            same("the test", "throws " + e, "throws nothing");
        }
        part = "";
    }

    static void same(String call, long got, long due) {
        same(call, Long.toString(got), Long.toString(due));
    }

    static void same(String call, boolean got, boolean due) {
        same(call, Boolean.toString(got), Boolean.toString(due));
    }

    static void same(String call, String got, String due) {
        made++;
        if (!got.equals(due)) {
            wrong++;
            System.out.println(part + call + " answered " + got + ", due is " + due);
        }
    }

    /** The call must throw exactly this exception. */
    static void throwing(String call, Class<? extends RuntimeException> due, Call made) {
        same(call, outcome(made), "throws " + due.getSimpleName());
    }

    /** The call must throw IndexOutOfBoundsException for end, what is behind it, and what is negative. */
    static void outside(String call, int end, CallWith made) {
        for (int number : new int[] {end, end + 1}) {
            throwing(call + " " + number, IndexOutOfBoundsException.class, () -> made.answer(number));
        }
        for (int number : NO_INDEX) {
            throwing(call + " " + number, IndexOutOfBoundsException.class, () -> made.answer(number));
        }
    }

    /** The call must answer due for end, what is behind it, and what is negative. */
    static void answersOutside(String call, int due, int end, CallWith made) {
        for (int number : new int[] {end, end + 1}) {
            same(call + " " + number, outcome(() -> made.answer(number)), Integer.toString(due));
        }
        for (int number : NO_INDEX) {
            same(call + " " + number, outcome(() -> made.answer(number)), Integer.toString(due));
        }
    }

    /** The answer, or the exception's name behind "throws ". */
    static String outcome(Call call) {
        try {
            return Long.toString(call.answer());
        } catch (RuntimeException e) {
            return "throws " + e.getClass().getSimpleName();
        }
    }

    static void feed(Reader reader, String text) {
        for (byte b : text.getBytes(StandardCharsets.ISO_8859_1)) {
            if (!reader.unit(b & 255)) {
                throw new AssertionError("a byte was not taken: " + text);
            }
        }
    }

    /** A new object that holds the text, not read. */
    static Reader holding(String text) {
        Reader reader = new Reader();
        feed(reader, text);
        return reader;
    }

    /** A new object that has read the text, which must not be refused. */
    static Reader reading(String text) {
        Reader reader = holding(text);
        int answer = reader.read();
        if (answer < 0) {
            same("read of '" + text + "'", answer, 0);
        }
        return reader;
    }

    /** The text is not refused, and has that many RULES. */
    static void reads(String text, int rules) {
        same("read of '" + text + "'", holding(text).read(), rules);
    }

    /** The text is refused at that place. */
    static void refuses(String text, int place) {
        same("read of '" + text + "'", holding(text).read(), -1 - place);
    }

    /** The text's rows over the grid are due: "0,1 2,3" are two rows of two places. */
    static void unrolls(String text, int width, int height, String due) {
        Reader reader = reading(text);
        String what = "'" + text + "' over " + width + " by " + height;
        int count = due.isEmpty() ? 0 : due.split(" ").length;
        same("rows of " + what, outcome(() -> reader.rows(width, height)), Integer.toString(count));
        same("places of " + what, places(reader), due);
    }

    /** The text has that many rows over the grid. */
    static void countsRows(String text, int width, int height, int due) {
        Reader reader = reading(text);
        same("rows of '" + text + "' over " + width + " by " + height,
                outcome(() -> reader.rows(width, height)), Integer.toString(due));
    }

    /** The text is too much for the grid. */
    static void isTooMuch(String text, int width, int height) {
        Reader reader = reading(text);
        throwing("rows of '" + text + "' over " + width + " by " + height,
                UnsupportedOperationException.class, () -> reader.rows(width, height));
    }

    /** No row can be asked for, and no place is told to be free. */
    static void nothingIsUnrolled(String when, Reader reader) {
        throwing("row(0, 0) " + when, IndexOutOfBoundsException.class, () -> reader.row(0, 0));
        throwing("row(0, 5) " + when, IndexOutOfBoundsException.class, () -> reader.row(0, 5));
        throwing("place(0, 0) " + when, IndexOutOfBoundsException.class, () -> reader.place(0, 0));
        same("free(0) " + when, reader.free(0), -1);
    }

    /** Every call answers as one does that has nothing read. */
    static void nothingIsRead(String when, Reader reader) {
        throwing("rows " + when, IllegalStateException.class, () -> reader.rows(2, 2));
        nothingIsUnrolled(when, reader);
        for (int kind = 0; kind <= 9; kind++) {
            same("given(" + kind + ") " + when, reader.given(kind), 0);
        }
        throwing("line(0) " + when, IndexOutOfBoundsException.class, () -> reader.line(0));
        same("write(0) " + when, reader.write(0), -1);
        same("depth() " + when, reader.depth(), 0);
    }

    static String printed(Reader reader) {
        StringBuilder all = new StringBuilder();
        int next = reader.write(0);
        while (next != -1 && all.length() < MOST_ASKED) {
            all.append((char) next);
            next = reader.write(all.length());
        }
        return all.toString();
    }

    /** The unrolled rows as "0,1 2,3": the places of each one, as far as there are any. */
    static String places(Reader reader) {
        StringBuilder all = new StringBuilder();
        for (int k = 0; k < MOST_ASKED && hasRow(reader, k); k++) {
            all.append(k > 0 ? " " : "").append(placesOf(reader, k));
        }
        return all.toString();
    }

    static String placesOf(Reader reader, int k) {
        StringBuilder all = new StringBuilder();
        for (int i = 0; i < reader.row(k, 5); i++) {
            all.append(i > 0 ? "," : "").append(reader.place(k, i));
        }
        return all.toString();
    }

    private static boolean hasRow(Reader reader, int k) {
        return !outcome(() -> reader.row(k, 0)).startsWith("throws ");
    }

    /** A rule that many times, with ; between. */
    static String times(String rule, int count) {
        return (rule + ";").repeat(count - 1) + rule;
    }

    static void end() {
        if (wrong != 0) {
            System.out.println(wrong + " of " + made + " answers are not as due");
            System.exit(1);
        }
    }
}
