import java.util.List;
import java.util.Random;

/** All promises, over many made-up texts and grids, against the naive reading of the document. */
public final class NaiveTest {
    // Such a text leaves enough of the 512 calls for questions.
    private static final int LONGEST = 400;

    private static int read = 0;
    private static int refused = 0;
    private static int unrolled = 0;
    private static int tooMuch = 0;

    public static void main(String[] args) {
        Random random = new Random(20261115L);
        Texts texts = new Texts(random);
        for (int i = 0; i < 30000; i++) {
            String text = i % 10 == 0 ? texts.soup(random.nextInt(12)) : texts.group(random.nextInt(6));
            if (random.nextInt(3) == 0) {
                text = texts.spoilt(text);
            }
            if (text.length() < LONGEST) {
                compare(text, random, i % 3 == 0 ? 16 : 5);
            }
        }
        for (int i = 0; i < 1500; i++) {
            compare(texts.layered(), random, 16);
        }
        for (int depth = 36; depth <= 44; depth++) {
            compareDeep(depth, random);
        }
        atLeast("texts that are read", read, 5000);
        atLeast("texts that are refused", refused, 5000);
        atLeast("grids", unrolled, 5000);
        atLeast("grids with too much", tooMuch, 100);
        Check.end();
    }

    private static void atLeast(String what, int seen, int due) {
        Check.same(what + " (at least " + due + ")", Math.min(seen, due), due);
    }

    private static void compareDeep(int depth, Random random) {
        for (int i = 0; i < 200; i++) {
            StringBuilder text = new StringBuilder();
            int braces = 0;
            for (int d = 0; d < depth; d++) {
                int choice = random.nextInt(3);
                text.append(choice == 0 ? "{" : choice == 1 ? "each row " : "where odd ");
                braces += choice == 0 ? 1 : 0;
            }
            text.append("equal").append("}".repeat(braces));
            compare(text.toString(), random, 16);
        }
    }

    private static void compare(String text, Random random, int side) {
        Naive naive = new Naive(text);
        Reader reader = Check.holding(text);
        String of = " of '" + text + "'";
        Check.same("read" + of, reader.read(), naive.refused >= 0 ? -1 - naive.refused : naive.rules.size());
        Check.same("print" + of, Check.printed(reader), naive.printed);
        Check.same("depth" + of, reader.depth(), naive.deepest);
        for (int kind = 0; kind <= 9; kind++) {
            int given = kind;
            long due = naive.rules.stream().filter(r -> r.kind() == 6 && r.number() == given).count();
            Check.same("given(" + kind + ")" + of, reader.given(kind), due);
        }
        for (int n = 0; n < naive.rules.size(); n++) {
            Check.same("line(" + n + ")" + of, reader.line(n), naive.rules.get(n).start());
        }
        if (naive.refused >= 0) {
            refused++;
            Check.throwing("rows" + of, IllegalStateException.class, () -> reader.rows(3, 3));
            return;
        }
        read++;
        compareRows(reader, naive, 1 + random.nextInt(side), 1 + random.nextInt(side), of);
    }

    private static void compareRows(Reader reader, Naive naive, int width, int height, String text) {
        String of = text + " over " + width + " by " + height;
        List<Naive.NaiveRow> rows = naive.unroll(width, height);
        if (rows == null) {
            tooMuch++;
            Check.throwing("rows" + of, UnsupportedOperationException.class, () -> reader.rows(width, height));
            Check.same("free(0)" + of, reader.free(0), -1);
            return;
        }
        unrolled++;
        Check.same("rows" + of, Check.outcome(() -> reader.rows(width, height)), Integer.toString(rows.size()));
        boolean[] touched = new boolean[width * height];
        for (int k = 0; k < rows.size(); k++) {
            Naive.NaiveRow row = rows.get(k);
            Naive.NaiveRule rule = naive.rules.get(row.rule());
            int[] due = {row.rule(), rule.kind(), rule.comparison(), rule.number(), rule.counted(),
                    row.places().size()};
            for (int what = 0; what < due.length; what++) {
                Check.same("row(" + k + ", " + what + ")" + of, reader.row(k, what), due[what]);
            }
            for (int i = 0; i < row.places().size(); i++) {
                Check.same("place(" + k + ", " + i + ")" + of, reader.place(k, i), row.places().get(i));
                touched[row.places().get(i)] = true;
            }
        }
        int free = 0;
        for (int place = 0; place < touched.length; place++) {
            if (!touched[place]) {
                Check.same("free(" + free + ")" + of, reader.free(free), place);
                free++;
            }
        }
        Check.same("free behind the last" + of, reader.free(free), -1);
    }
}
