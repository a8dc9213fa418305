import java.util.List;
import java.util.Random;

/** Made-up texts, right and wrong ones; the same seed always makes the same ones. */
final class Texts {
    private static final List<String> PIECES = List.of("each", "where", "row", "block", "window", "odd",
            "unlike", "sum", "count", "given", ";", "{", "}", "=", "<", ">", "0", "3", "17", "256", "257",
            "999999", "1000000", " ", "\n", "?", "\t", "x", "\u00ff");

    private final Random random;

    Texts(Random random) {
        this.random = random;
    }

    private String pick(List<String> list) {
        return list.get(random.nextInt(list.size()));
    }

    private String number(int least, int most) {
        int number = least + random.nextInt(most - least + 1);
        return random.nextInt(8) == 0 ? "0" + number : Integer.toString(number);
    }

    private String comparison() {
        return " ".repeat(random.nextInt(2)) + pick(Naive.COMPARISONS) + " ".repeat(random.nextInt(2))
                + number(0, 99999);
    }

    private String rule() {
        String word = pick(Naive.KINDS);
        switch (word) {
            case "sum":
                return word + comparison();
            case "count":
                return word + " " + number(0, 30) + comparison();
            case "given":
                return word + " " + number(0, 9);
            default:
                return word;
        }
    }

    private String shape() {
        String word = pick(Naive.SHAPES);
        switch (word) {
            case "block":
                return word + " " + number(1, random.nextBoolean() ? 4 : 16) + " " + number(1, 5);
            case "window":
                return word + " " + number(1, random.nextInt(3) == 0 ? 256 : 6);
            default:
                return word;
        }
    }

    String statement(int size) {
        int choice = size <= 0 ? 9 : random.nextInt(10);
        if (choice < 3) {
            return "each " + shape() + " " + statement(size - 1);
        }
        if (choice < 5) {
            return "where " + pick(Naive.FILTERS) + "\n" + statement(size - 1);
        }
        return choice < 8 ? "{" + group(size - 1) + "}" : rule();
    }

    String group(int size) {
        StringBuilder all = new StringBuilder();
        int count = random.nextInt(4);
        for (int i = 0; i < count; i++) {
            all.append(i > 0 ? ";" : "").append(" ".repeat(random.nextInt(2))).append(statement(size));
        }
        return all.toString();
    }

    /** Some layers around many rules: over a large grid this is often too much. */
    String layered() {
        StringBuilder all = new StringBuilder();
        for (int i = 1 + random.nextInt(4); i > 0; i--) {
            all.append(random.nextInt(4) == 0 ? "where " + pick(Naive.FILTERS) : "each " + shape()).append(' ');
        }
        all.append('{').append(rule());
        for (int i = random.nextInt(30); i > 0; i--) {
            all.append(';').append(rule());
        }
        return all.append('}').toString();
    }

    /** The text with some piece put in, or some bytes cut out or doubled. */
    String spoilt(String text) {
        int from = random.nextInt(text.length() + 1);
        int to = Math.min(text.length(), from + random.nextInt(4));
        switch (random.nextInt(4)) {
            case 0:
                return text.substring(0, from) + pick(PIECES) + text.substring(from);
            case 1:
                return text.substring(0, from) + text.substring(to);
            case 2:
                return text.substring(0, to) + text.substring(from);
            default:
                return text.substring(0, from);
        }
    }

    String soup(int pieces) {
        StringBuilder all = new StringBuilder();
        for (int i = 0; i < pieces; i++) {
            all.append(pick(PIECES)).append(random.nextInt(3) > 0 ? " " : "");
        }
        return all.toString();
    }
}
