import java.util.ArrayDeque;
import java.util.ArrayList;
import java.util.List;
import java.util.Set;
import java.util.TreeMap;
import java.util.TreeSet;
import java.util.function.Function;
import java.util.regex.Matcher;
import java.util.regex.Pattern;

/**
 * The document once more, written as plainly and differently as can be: tokens by a pattern, the
 * grammar with a stack, and all the sets of a layer in a list before the next layer is looked at.
 */
final class Naive {
    static final List<String> SHAPES = List.of("row", "column", "block", "cell", "pair", "window",
            "side", "corner", "diagonal", "anti");
    static final List<String> FILTERS = List.of("odd", "even", "border", "inner");
    static final List<String> KINDS = List.of("unlike", "equal", "rising", "falling", "sum", "count", "given");
    static final List<String> COMPARISONS = List.of("=", "<", ">");
    private static final Pattern TOKEN = Pattern.compile("[a-z]+|[0-9]+|[;{}=<>]");

    /** A layer or a brace that is open: its word and numbers; a brace has none. */
    record Open(List<String> words) {
    }

    record NaiveRule(int start, int kind, int comparison, int number, int counted, List<Open> around) {
    }

    record NaiveRow(int rule, List<Integer> places) {
    }

    final List<NaiveRule> rules = new ArrayList<>();
    int refused = -1;
    int deepest = 0;
    String printed = "";

    private final List<String> tokens = new ArrayList<>();
    private final List<Integer> starts = new ArrayList<>();
    private int next = 0;

    Naive(String text) {
        cut(text);
        try {
            parse();
            printed = String.join(" ", tokens);
        } catch (IllegalStateException e) {
            refused = starts.get(next);
            rules.clear();
            deepest = 0;
        }
    }

    /** What is wrong becomes the token "?", which may stand nowhere; THE END is "". */
    private void cut(String text) {
        int at = 0;
        Matcher matcher = TOKEN.matcher(text);
        while (at < text.length()) {
            if (text.charAt(at) == ' ' || text.charAt(at) == '\n') {
                at++;
                continue;
            }
            starts.add(at);
            if (!matcher.region(at, text.length()).lookingAt()) {
                tokens.add("?");
                return;
            }
            String token = matcher.group();
            boolean touches = at > 0 && isWordOrNumber(text.charAt(at - 1)) && isWordOrNumber(token.charAt(0));
            boolean tooLong = token.length() > 6 && Character.isDigit(token.charAt(0));
            tokens.add(touches || tooLong ? "?" : token);
            at = matcher.end();
        }
        starts.add(text.length());
    }

    private static boolean isWordOrNumber(char c) {
        return c >= 'a' && c <= 'z' || c >= '0' && c <= '9';
    }

    private String peek() {
        return next < tokens.size() ? tokens.get(next) : "";
    }

    private String oneOf(List<String> allowed) {
        if (!allowed.contains(peek())) {
            throw new IllegalStateException();
        }
        return tokens.get(next++);
    }

    private int number(int least, int most) {
        if (!peek().matches("[0-9]+") || Integer.parseInt(peek()) < least || Integer.parseInt(peek()) > most) {
            throw new IllegalStateException();
        }
        return Integer.parseInt(tokens.get(next++));
    }

    private void parse() {
        ArrayDeque<Open> open = new ArrayDeque<>();
        boolean optional = true;
        while (true) {
            boolean closes = peek().equals(open.isEmpty() ? "" : "}");
            if (!(optional && closes)) {
                optional = statement(open);
                if (optional) {
                    continue;
                }
            }
            // A statement has ended, or a group has none: close what ends with it.
            while (true) {
                while (!open.isEmpty() && !open.getLast().words().isEmpty()) {
                    open.removeLast();
                }
                if (open.isEmpty() || !peek().equals("}")) {
                    break;
                }
                next++;
                open.removeLast();
            }
            if (open.isEmpty() && peek().isEmpty()) {
                return;
            }
            oneOf(List.of(";"));
            optional = false;
        }
    }

    /** Goes on to a RULE (false) or to the beginning of a group (true). */
    private boolean statement(ArrayDeque<Open> open) {
        while (true) {
            if (KINDS.contains(peek())) {
                rule(List.copyOf(open));
                return false;
            }
            if (!List.of("each", "where", "{").contains(peek()) || open.size() == 40) {
                throw new IllegalStateException();
            }
            deepest = Math.max(deepest, open.size() + 1);
            String first = tokens.get(next++);
            if (first.equals("{")) {
                open.addLast(new Open(List.of()));
                return true;
            }
            open.addLast(layer(first.equals("each") ? SHAPES : FILTERS));
        }
    }

    private Open layer(List<String> allowed) {
        String word = oneOf(allowed);
        if (word.equals("block")) {
            String a = Integer.toString(number(1, 16));
            return new Open(List.of(word, a, Integer.toString(number(1, 16))));
        }
        if (word.equals("window")) {
            return new Open(List.of(word, Integer.toString(number(1, 256))));
        }
        return new Open(List.of(word));
    }

    private void rule(List<Open> around) {
        int start = starts.get(next);
        String word = oneOf(KINDS);
        int comparison = -1;
        int number = -1;
        int counted = word.equals("count") ? number(0, 999999) : -1;
        if (word.equals("sum") || word.equals("count")) {
            comparison = COMPARISONS.indexOf(oneOf(COMPARISONS));
            number = number(0, 999999);
        } else if (word.equals("given")) {
            number = number(0, 9);
        }
        rules.add(new NaiveRule(start, KINDS.indexOf(word), comparison, number, counted, around));
    }

    /** The primitive rows, or null when there is too much. */
    List<NaiveRow> unroll(int width, int height) {
        List<NaiveRow> rows = new ArrayList<>();
        int places = 0;
        int made = 0;
        for (int n = 0; n < rules.size(); n++) {
            List<List<Integer>> sets = new ArrayList<>();
            sets.add(new ArrayList<>());
            for (int place = 0; place < width * height; place++) {
                sets.get(0).add(place);
            }
            for (Open open : rules.get(n).around()) {
                if (!open.words().isEmpty()) {
                    List<List<Integer>> inner = new ArrayList<>();
                    for (List<Integer> set : sets) {
                        inner.addAll(from(set, open.words(), width, height));
                    }
                    sets = inner;
                    made += sets.size();
                    if (made > 6000) {
                        return null;
                    }
                }
            }
            for (List<Integer> set : sets) {
                if (!set.isEmpty()) {
                    rows.add(new NaiveRow(n, set));
                    places += set.size();
                }
            }
        }
        return rows.size() > 4000 || places > 30000 ? null : rows;
    }

    private static List<List<Integer>> from(List<Integer> set, List<String> words, int w, int h) {
        switch (words.get(0)) {
            case "row":
                return parts(set, p -> p / w);
            case "column":
                return parts(set, p -> p % w);
            case "diagonal":
                return parts(set, p -> p % w - p / w);
            case "anti":
                return parts(set, p -> p % w + p / w);
            case "block":
                int a = Integer.parseInt(words.get(1));
                int b = Integer.parseInt(words.get(2));
                return parts(set, p -> 1000 * (p / w / b) + p % w / a);
            case "cell":
                return windows(set, 1);
            case "pair":
                return windows(set, 2);
            case "window":
                return windows(set, Integer.parseInt(words.get(1)));
            case "side":
                return sides(set, w);
            case "corner":
                return corners(set, w);
            default:
                return List.of(filtered(set, words.get(0), w, h));
        }
    }

    private static List<List<Integer>> parts(List<Integer> set, Function<Integer, Integer> key) {
        TreeMap<Integer, List<Integer>> parts = new TreeMap<>();
        for (int place : set) {
            parts.computeIfAbsent(key.apply(place), k -> new ArrayList<>()).add(place);
        }
        return new ArrayList<>(parts.values());
    }

    private static List<List<Integer>> windows(List<Integer> set, int length) {
        List<List<Integer>> windows = new ArrayList<>();
        for (int i = 0; i + length <= set.size(); i++) {
            windows.add(set.subList(i, i + length));
        }
        return windows;
    }

    private static List<List<Integer>> sides(List<Integer> set, int w) {
        List<List<Integer>> sides = new ArrayList<>();
        for (int i = 0; i < set.size(); i++) {
            for (int j = i + 1; j < set.size(); j++) {
                int p = set.get(i);
                int q = set.get(j);
                if (Math.abs(p % w - q % w) + Math.abs(p / w - q / w) == 1) {
                    sides.add(List.of(p, q));
                }
            }
        }
        return sides;
    }

    private static List<List<Integer>> corners(List<Integer> set, int w) {
        List<List<Integer>> corners = new ArrayList<>();
        Set<Integer> all = new TreeSet<>(set);
        for (int p : set) {
            List<Integer> four = List.of(p, p + 1, p + w, p + w + 1);
            if (p % w + 1 < w && all.containsAll(four)) {
                corners.add(four);
            }
        }
        return corners;
    }

    private static List<Integer> filtered(List<Integer> set, String filter, int w, int h) {
        List<Integer> kept = new ArrayList<>();
        for (int p : set) {
            boolean odd = (p % w + p / w) % 2 != 0;
            boolean border = p % w == 0 || p / w == 0 || p % w == w - 1 || p / w == h - 1;
            boolean keeps = filter.equals("odd") && odd || filter.equals("even") && !odd
                    || filter.equals("border") && border || filter.equals("inner") && !border;
            if (keeps) {
                kept.add(p);
            }
        }
        return kept;
    }
}
