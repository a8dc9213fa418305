/**
 * Rules of a family of grid puzzles as a text: read, or refused at the first wrong place, printed,
 * and unrolled over a grid to primitive rows of places.
 */
public final class RuleReader {
    private static final int MOST_BYTES = 2000;
    private static final int MOST_DIGITS = 6;
    private static final int MOST_NUMBER = 999999;
    private static final int MOST_DEPTH = 40;
    private static final int MOST_SIDE = 16;
    private static final int MOST_PLACES = MOST_SIDE * MOST_SIDE;
    private static final int MOST_GIVEN = 9;
    // The shortest RULE has five bytes, so that no text has more of them.
    private static final int MOST_RULES = MOST_BYTES / 5;
    // Each token has a byte or more, but for THE END.
    private static final int MOST_TOKENS = MOST_BYTES + 1;
    private static final int MOST_ROWS = 4000;
    private static final int MOST_ROW_PLACES = 30000;
    private static final int MOST_SETS = 6000;

    private static final int NONE = -1;

    private static final int ROLE_AROUND = 0;
    private static final int ROLE_SHAPE = 1;
    private static final int ROLE_FILTER = 2;
    private static final int ROLE_RULE = 3;

    private static final int KIND_SUM = 4;
    private static final int KIND_COUNT = 5;
    private static final int KIND_GIVEN = 6;

    private static final int WHAT_RULE = 0;
    private static final int WHAT_KIND = 1;
    private static final int WHAT_COMPARISON = 2;
    private static final int WHAT_NUMBER = 3;
    private static final int WHAT_COUNTED = 4;
    private static final int WHAT_SIZE = 5;

    private final Text text;
    private final Book book;
    private final Parser parser;
    private final RowStore store;
    private final Unroller unroller;

    public RuleReader() {
        text = new Text();
        book = new Book();
        parser = new Parser(text, book);
        store = new RowStore();
        unroller = new Unroller(store);
    }

    public boolean unit(int u) {
        return text.append(u);
    }

    public int read() {
        store.drop();
        book.drop();
        if (!parser.parse()) {
            book.drop();
            return -1 - parser.refusedAt();
        }
        book.present = true;
        return book.ruleCount;
    }

    public int rows(int width, int height)
            throws IllegalStateException, IllegalArgumentException, UnsupportedOperationException {
        if (!book.present) {
            throw new IllegalStateException("nothing is read");
        }
        store.drop();
        if (width < 1 || width > MOST_SIDE || height < 1 || height > MOST_SIDE) {
            throw new IllegalArgumentException("width or height is not 1 to 16");
        }
        if (!unroller.unroll(book, width, height)) {
            store.drop();
            throw new UnsupportedOperationException("too many rows, places or sets");
        }
        return store.rowCount;
    }

    public int row(int k, int what) throws IndexOutOfBoundsException {
        int number = store.ruleOf(k);
        Rule rule = book.ruleAt(number);
        if (rule == null || what < WHAT_RULE || what > WHAT_SIZE) {
            throw new IndexOutOfBoundsException("no such row, or nothing such of a row");
        }
        switch (what) {
            case WHAT_RULE:
                return number;
            case WHAT_KIND:
                return rule.kind;
            case WHAT_COMPARISON:
                return rule.comparison;
            case WHAT_NUMBER:
                return rule.number;
            case WHAT_COUNTED:
                return rule.counted;
            default:
                return store.sizeOf(k);
        }
    }

    public int place(int row, int i) throws IndexOutOfBoundsException {
        int found = store.placeOf(row, i);
        if (found == NONE) {
            throw new IndexOutOfBoundsException("no such place of a row");
        }
        return found;
    }

    public int free(int k) {
        return store.untouched(k);
    }

    public int given(int kind) {
        return book.countGiven(kind);
    }

    public int line(int n) throws IndexOutOfBoundsException {
        Rule rule = book.ruleAt(n);
        if (rule == null) {
            throw new IndexOutOfBoundsException("no such rule");
        }
        return rule.start;
    }

    public int write(int i) {
        return book.printedAt(i);
    }

    public int depth() {
        return book.deepest;
    }

    public void clear() {
        text.size = 0;
    }

    /** The words of the grammar; a RULE's code is its kind, the other words need none. */
    private enum Word {
        EACH("each", ROLE_AROUND, NONE),
        WHERE("where", ROLE_AROUND, NONE),
        ROW("row", ROLE_SHAPE, NONE),
        COLUMN("column", ROLE_SHAPE, NONE),
        BLOCK("block", ROLE_SHAPE, NONE),
        CELL("cell", ROLE_SHAPE, NONE),
        PAIR("pair", ROLE_SHAPE, NONE),
        WINDOW("window", ROLE_SHAPE, NONE),
        SIDE("side", ROLE_SHAPE, NONE),
        CORNER("corner", ROLE_SHAPE, NONE),
        DIAGONAL("diagonal", ROLE_SHAPE, NONE),
        ANTI("anti", ROLE_SHAPE, NONE),
        ODD("odd", ROLE_FILTER, NONE),
        EVEN("even", ROLE_FILTER, NONE),
        BORDER("border", ROLE_FILTER, NONE),
        INNER("inner", ROLE_FILTER, NONE),
        UNLIKE("unlike", ROLE_RULE, 0),
        EQUAL("equal", ROLE_RULE, 1),
        RISING("rising", ROLE_RULE, 2),
        FALLING("falling", ROLE_RULE, 3),
        SUM("sum", ROLE_RULE, KIND_SUM),
        COUNT("count", ROLE_RULE, KIND_COUNT),
        GIVEN("given", ROLE_RULE, KIND_GIVEN);

        private static final Word[] ALL = values();

        private final String spelling;
        private final int role;
        private final int code;

        Word(String spelling, int role, int code) {
            this.spelling = spelling;
            this.role = role;
            this.code = code;
        }

        /** The word that stands in the text from start to before end, or null. */
        static Word find(Text text, int start, int end) {
            for (int i = 0; i < ALL.length; i++) {
                if (ALL[i].stands(text, start, end)) {
                    return ALL[i];
                }
            }
            return null;
        }

        private boolean stands(Text text, int start, int end) {
            if (end - start != spelling.length()) {
                return false;
            }
            for (int i = 0; i < spelling.length(); i++) {
                if (text.at(start + i) != spelling.charAt(i)) {
                    return false;
                }
            }
            return true;
        }
    }

    /** The bytes that came. */
    private static final class Text {
        private final char[] bytes = new char[MOST_BYTES];
        private int size;

        boolean append(int u) {
            if (u < 0 || u > 255 || size < 0 || size >= bytes.length) {
                return false;
            }
            bytes[size] = (char) u;
            size++;
            return true;
        }

        int at(int i) {
            return i >= 0 && i < size && i < bytes.length ? bytes[i] : NONE;
        }
    }

    /**
     * The tokens of a text, cut all at once and then looked at one after the other. The last one is
     * END, or WRONG: the first that is no token, or touches one it may not.
     */
    private static final class Tokens {
        private static final int END = 0;
        private static final int WORD = 1;
        private static final int NUMBER = 2;
        private static final int SIGN = 3;
        private static final int WRONG = 4;

        private final Text text;
        private final int[] sorts = new int[MOST_TOKENS];
        private final int[] starts = new int[MOST_TOKENS];
        private final int[] ends = new int[MOST_TOKENS];
        private final int[] values = new int[MOST_TOKENS];
        private final Word[] words = new Word[MOST_TOKENS];
        private int count;
        private int next;

        // Of the token that is cut, or stands next; the value is a number's own, or a sign's byte.
        private int sort;
        private int start;
        private int end;
        private int value;
        private Word word;

        Tokens(Text text) {
            this.text = text;
        }

        /** Cuts the text anew; its first token is the one that stands next then. */
        void cut() {
            count = 0;
            // The first token touches none; as a sign may be touched by any, one is pretended there.
            sort = SIGN;
            end = 0;
            for (int i = 0; i < MOST_TOKENS && sort != END && sort != WRONG; i++) {
                scan();
                keep(i);
            }
            next = NONE;
            advance();
        }

        void advance() {
            int i = next + 1;
            if (i < 0 || i >= count || i >= MOST_TOKENS) {
                return;
            }
            next = i;
            sort = sorts[i];
            start = starts[i];
            value = values[i];
            word = words[i];
        }

        void printTo(Book book) {
            // The last one is THE END (or wrong), which is not printed.
            for (int i = 0; i < count - 1 && i < MOST_TOKENS; i++) {
                book.print(text, starts[i], ends[i]);
            }
        }

        boolean isTheSign(char sign) {
            return sort == SIGN && value == sign;
        }

        boolean isTheWord(Word wanted) {
            return sort == WORD && word == wanted;
        }

        boolean isWordOf(int role) {
            return sort == WORD && word != null && word.role == role;
        }

        private void keep(int i) {
            if (i < 0 || i >= MOST_TOKENS) {
                return;
            }
            sorts[i] = sort;
            starts[i] = start;
            ends[i] = end;
            values[i] = value;
            words[i] = word;
            count = i + 1;
        }

        private void scan() {
            int lastSort = sort;
            int lastEnd = end;
            start = behindBlanks(lastEnd);
            value = NONE;
            word = null;
            int first = text.at(start);
            if (start >= text.size) {
                sort = END;
                end = start;
            } else if (isLetter(first)) {
                scanWord();
            } else if (isDigit(first)) {
                scanNumber();
            } else {
                sort = isSign(first) ? SIGN : WRONG;
                value = first;
                end = start + 1;
            }
            if (start == lastEnd && mayNotTouch(lastSort, sort)) {
                sort = WRONG;
            }
        }

        private int behindBlanks(int from) {
            int i = from;
            while (i < text.size && (text.at(i) == ' ' || text.at(i) == '\n')) {
                i++;
            }
            return i;
        }

        private void scanWord() {
            end = start;
            while (end < text.size && isLetter(text.at(end))) {
                end++;
            }
            sort = WORD;
            word = Word.find(text, start, end);
        }

        private void scanNumber() {
            end = start;
            value = 0;
            while (end < text.size && isDigit(text.at(end))) {
                // Digits behind the sixth refuse the number, so its value is of no use then.
                if (end - start < MOST_DIGITS) {
                    value = value * 10 + text.at(end) - '0';
                }
                end++;
            }
            sort = end - start > MOST_DIGITS ? WRONG : NUMBER;
        }

        private static boolean mayNotTouch(int left, int right) {
            return left == WORD && right == NUMBER || left == NUMBER && right == WORD;
        }

        private static boolean isLetter(int b) {
            return b >= 'a' && b <= 'z';
        }

        private static boolean isDigit(int b) {
            return b >= '0' && b <= '9';
        }

        private static boolean isSign(int b) {
            return b == ';' || b == '{' || b == '}' || b == '=' || b == '<' || b == '>';
        }
    }

    /** One each or where, with the next one around it (null: none). */
    private static final class Layer {
        private final Word word;
        private final int first;
        private final int second;
        private final Layer outer;
        private final int level;

        Layer(Word word, int first, int second, Layer outer) {
            this.word = word;
            this.first = first;
            this.second = second;
            this.outer = outer;
            this.level = outer == null ? 1 : outer.level + 1;
        }
    }

    /** One RULE, with the innermost each or where around it (null: none). */
    private static final class Rule {
        private final int kind;
        private final int start;
        private final Layer around;
        private int comparison = NONE;
        private int number = NONE;
        private int counted = NONE;

        Rule(int kind, int start, Layer around) {
            this.kind = kind;
            this.start = start;
            this.around = around;
        }
    }

    /** What is read: the RULES, the printed tokens and the greatest DEPTH. */
    private static final class Book {
        private final Rule[] rules = new Rule[MOST_RULES];
        // A blank may stand behind each token, and each token has a byte of the text or more.
        private final char[] printed = new char[2 * MOST_BYTES];
        private boolean present;
        private int ruleCount;
        private int printedSize;
        private int deepest;

        void drop() {
            present = false;
            ruleCount = 0;
            printedSize = 0;
            deepest = 0;
        }

        boolean add(Rule rule) {
            if (ruleCount < 0 || ruleCount >= rules.length) {
                return false;
            }
            rules[ruleCount] = rule;
            ruleCount++;
            return true;
        }

        Rule ruleAt(int n) {
            return n >= 0 && n < ruleCount && n < rules.length ? rules[n] : null;
        }

        int countGiven(int number) {
            int count = 0;
            for (int n = 0; n < ruleCount; n++) {
                Rule rule = ruleAt(n);
                if (rule != null && rule.kind == KIND_GIVEN && rule.number == number) {
                    count++;
                }
            }
            return count;
        }

        void print(Text text, int start, int end) {
            if (printedSize > 0) {
                printByte(' ');
            }
            for (int i = start; i < end; i++) {
                printByte((char) text.at(i));
            }
        }

        private void printByte(char b) {
            if (printedSize >= 0 && printedSize < printed.length) {
                printed[printedSize] = b;
                printedSize++;
            }
        }

        int printedAt(int i) {
            return i >= 0 && i < printedSize && i < printed.length ? printed[i] : NONE;
        }
    }

    /**
     * Reads a text into a book. Each method takes its part of the grammar, or answers false (a
     * number: -1) and leaves the token that may not be there as the one that stands next.
     */
    private static final class Parser {
        private final Book book;
        private final Tokens tokens;

        Parser(Text text, Book book) {
            this.book = book;
            this.tokens = new Tokens(text);
        }

        boolean parse() {
            tokens.cut();
            if (!takeGroup(0, null) || tokens.sort != Tokens.END) {
                return false;
            }
            tokens.printTo(book);
            return true;
        }

        int refusedAt() {
            return tokens.start;
        }

        private boolean takeGroup(int depth, Layer around) {
            if (tokens.sort == Tokens.END || tokens.isTheSign('}')) {
                return true;
            }
            for (int i = 0; i < MOST_BYTES; i++) {
                if (!takeStatement(depth, around)) {
                    return false;
                }
                if (!tokens.isTheSign(';')) {
                    return true;
                }
                tokens.advance();
            }
            return false;
        }

        private boolean takeStatement(int depth, Layer around) {
            if (tokens.isWordOf(ROLE_RULE)) {
                return takeRule(around);
            }
            boolean braced = tokens.isTheSign('{');
            if (!braced && !tokens.isWordOf(ROLE_AROUND) || depth >= MOST_DEPTH) {
                return false;
            }
            book.deepest = Math.max(book.deepest, depth + 1);
            return braced ? takeBraced(depth + 1, around) : takeLayered(depth + 1, around);
        }

        private boolean takeBraced(int depth, Layer around) {
            tokens.advance();
            if (!takeGroup(depth, around) || !tokens.isTheSign('}')) {
                return false;
            }
            tokens.advance();
            return true;
        }

        private boolean takeLayered(int depth, Layer around) {
            int role = tokens.isTheWord(Word.EACH) ? ROLE_SHAPE : ROLE_FILTER;
            tokens.advance();
            Layer layer = tokens.isWordOf(role) ? takeLayer(around) : null;
            return layer != null && takeStatement(depth, layer);
        }

        /** The SHAPE or FILTER that stands next, with its numbers; null when one of them is wrong. */
        private Layer takeLayer(Layer around) {
            Word word = tokens.word;
            tokens.advance();
            int first = NONE;
            int second = NONE;
            if (word == Word.BLOCK || word == Word.WINDOW) {
                first = takeNumber(1, word == Word.BLOCK ? MOST_SIDE : MOST_PLACES);
                if (first == NONE) {
                    return null;
                }
            }
            if (word == Word.BLOCK) {
                second = takeNumber(1, MOST_SIDE);
                if (second == NONE) {
                    return null;
                }
            }
            return new Layer(word, first, second, around);
        }

        private boolean takeRule(Layer around) {
            Word word = tokens.word;
            if (word == null) {
                return false;
            }
            Rule rule = new Rule(word.code, tokens.start, around);
            tokens.advance();
            boolean whole = true;
            switch (rule.kind) {
                case KIND_SUM:
                    whole = takeComparison(rule);
                    break;
                case KIND_COUNT:
                    rule.counted = takeNumber(0, MOST_NUMBER);
                    whole = rule.counted != NONE && takeComparison(rule);
                    break;
                case KIND_GIVEN:
                    rule.number = takeNumber(0, MOST_GIVEN);
                    whole = rule.number != NONE;
                    break;
                default:
                    break;
            }
            return whole && book.add(rule);
        }

        private boolean takeComparison(Rule rule) {
            rule.comparison = comparisonNext();
            if (rule.comparison == NONE) {
                return false;
            }
            tokens.advance();
            rule.number = takeNumber(0, MOST_NUMBER);
            return rule.number != NONE;
        }

        private int comparisonNext() {
            if (tokens.isTheSign('=')) {
                return 0;
            }
            if (tokens.isTheSign('<')) {
                return 1;
            }
            return tokens.isTheSign('>') ? 2 : NONE;
        }

        private int takeNumber(int least, int most) {
            int value = tokens.value;
            if (tokens.sort != Tokens.NUMBER || value < least || value > most) {
                return NONE;
            }
            tokens.advance();
            return value;
        }
    }

    /** The primitive rows of the last unrolling, if there is one. */
    private static final class RowStore {
        private final int[] rules = new int[MOST_ROWS];
        private final int[] starts = new int[MOST_ROWS + 1];
        private final int[] places = new int[MOST_ROW_PLACES];
        private final boolean[] touched = new boolean[MOST_PLACES];
        // How many places the grid has; 0 when nothing is unrolled.
        private int gridSize;
        private int rowCount;
        private int placeCount;

        void drop() {
            gridSize = 0;
            rowCount = 0;
            placeCount = 0;
        }

        void begin(int size) {
            drop();
            gridSize = size;
            for (int place = 0; place < touched.length; place++) {
                touched[place] = false;
            }
        }

        /** Begins a row of that many places, which addPlace then brings; false: too much. */
        boolean beginRow(int rule, int size) {
            if (rowCount < 0 || rowCount >= MOST_ROWS || placeCount + size > MOST_ROW_PLACES) {
                return false;
            }
            rules[rowCount] = rule;
            starts[rowCount] = placeCount;
            starts[rowCount + 1] = placeCount + size;
            rowCount++;
            return true;
        }

        void addPlace(int place) {
            if (placeCount < 0 || placeCount >= places.length || place < 0 || place >= touched.length) {
                return;
            }
            places[placeCount] = place;
            placeCount++;
            touched[place] = true;
        }

        private boolean has(int k) {
            return k >= 0 && k < rowCount && k < MOST_ROWS;
        }

        int ruleOf(int k) {
            return has(k) ? rules[k] : NONE;
        }

        int sizeOf(int k) {
            return has(k) ? starts[k + 1] - starts[k] : 0;
        }

        int placeOf(int k, int i) {
            if (!has(k) || i < 0 || i >= sizeOf(k)) {
                return NONE;
            }
            int at = starts[k] + i;
            return at >= 0 && at < places.length ? places[at] : NONE;
        }

        int untouched(int k) {
            int before = 0;
            for (int place = 0; place < gridSize && place < touched.length; place++) {
                if (!touched[place]) {
                    if (before == k) {
                        return place;
                    }
                    before++;
                }
            }
            return NONE;
        }
    }

    /**
     * Unrolls a book's RULES. A set is a piece of the array sets; what level number n of the layers
     * makes stands in room n + 1 of it, or is a piece of what it is made from. The places of a set
     * always rise: the first set's do, and no layer changes their order.
     */
    private static final class Unroller {
        private static final int KEYS = MOST_PLACES;

        private final RowStore store;
        private final int[] sets = new int[(MOST_DEPTH + 1) * MOST_PLACES];
        private final Layer[] layers = new Layer[MOST_DEPTH];
        private final int[] keyEnds = new int[KEYS];
        private int layerCount;
        private int width;
        private int height;
        private int rule;
        private int made;
        private boolean tooMuch;

        Unroller(RowStore store) {
            this.store = store;
        }

        /** False when there are too many rows, places or sets; the store holds a part then. */
        boolean unroll(Book book, int gridWidth, int gridHeight) {
            width = gridWidth;
            height = gridHeight;
            made = 0;
            tooMuch = false;
            int size = width * height;
            store.begin(size);
            for (int place = 0; place < size; place++) {
                put(place, place);
            }
            for (int n = 0; n < book.ruleCount && !tooMuch; n++) {
                Rule next = book.ruleAt(n);
                rule = n;
                layOut(next == null ? null : next.around);
                descend(0, 0, size);
            }
            return !tooMuch;
        }

        private void layOut(Layer innermost) {
            layerCount = innermost == null ? 0 : Math.min(innermost.level, MOST_DEPTH);
            Layer layer = innermost;
            for (int i = layerCount - 1; i >= 0 && layer != null; i--) {
                layers[i] = layer;
                layer = layer.outer;
            }
        }

        private void descend(int level, int from, int size) {
            if (level < 0 || level >= layerCount || level >= MOST_DEPTH) {
                addRow(from, size);
                return;
            }
            Layer layer = layers[level];
            Word word = layer == null ? null : layer.word;
            if (word == null) {
                return;
            }
            switch (word) {
                case CELL:
                    makeWindows(level, from, size, 1);
                    break;
                case PAIR:
                    makeWindows(level, from, size, 2);
                    break;
                case WINDOW:
                    makeWindows(level, from, size, layer.first);
                    break;
                case SIDE:
                    makeSides(level, from, size);
                    break;
                case CORNER:
                    makeCorners(level, from, size);
                    break;
                case ODD:
                case EVEN:
                case BORDER:
                case INNER:
                    makeFiltered(level, from, size, word);
                    break;
                default:
                    makeParts(level, from, size, layer);
                    break;
            }
        }

        private void makeSet(int level, int from, int size) {
            made++;
            if (made > MOST_SETS) {
                tooMuch = true;
            }
            if (!tooMuch) {
                descend(level, from, size);
            }
        }

        private void addRow(int from, int size) {
            if (size <= 0) {
                return;
            }
            if (!store.beginRow(rule, size)) {
                tooMuch = true;
                return;
            }
            for (int i = 0; i < size; i++) {
                store.addPlace(at(from + i));
            }
        }

        private void makeWindows(int level, int from, int size, int length) {
            for (int i = 0; i + length <= size && !tooMuch; i++) {
                makeSet(level + 1, from + i, length);
            }
        }

        private void makeSides(int level, int from, int size) {
            int end = from + size;
            for (int i = from; i < end && !tooMuch; i++) {
                int place = at(i);
                if (hasRight(place) && holds(i, end, place + 1)) {
                    makeSide(level, place, place + 1);
                }
                if (holds(i, end, place + width)) {
                    makeSide(level, place, place + width);
                }
            }
        }

        private void makeSide(int level, int place, int other) {
            int room = roomBehind(level);
            put(room, place);
            put(room + 1, other);
            makeSet(level + 1, room, 2);
        }

        private void makeCorners(int level, int from, int size) {
            int room = roomBehind(level);
            int end = from + size;
            for (int i = from; i < end && !tooMuch; i++) {
                int place = at(i);
                if (hasRight(place) && holds(i, end, place + 1)
                        && holds(i, end, place + width) && holds(i, end, place + width + 1)) {
                    put(room, place);
                    put(room + 1, place + 1);
                    put(room + 2, place + width);
                    put(room + 3, place + width + 1);
                    makeSet(level + 1, room, 4);
                }
            }
        }

        private void makeFiltered(int level, int from, int size, Word filter) {
            int room = roomBehind(level);
            int kept = 0;
            for (int i = from; i < from + size; i++) {
                if (passes(filter, at(i))) {
                    put(room + kept, at(i));
                    kept++;
                }
            }
            makeSet(level + 1, room, kept);
        }

        private boolean passes(Word filter, int place) {
            int x = xOf(place);
            int y = yOf(place);
            boolean odd = (x + y) % 2 == 1;
            boolean border = x == 0 || y == 0 || x == width - 1 || y == height - 1;
            switch (filter) {
                case ODD:
                    return odd;
                case EVEN:
                    return !odd;
                case BORDER:
                    return border;
                default:
                    return !border;
            }
        }

        private void makeParts(int level, int from, int size, Layer layer) {
            int room = roomBehind(level);
            sortByKey(layer, from, size, room);
            int begin = room;
            int end = room + size;
            for (int i = room + 1; i <= end && !tooMuch; i++) {
                if (i == end || keyOf(layer, at(i)) != keyOf(layer, at(begin))) {
                    makeSet(level + 1, begin, i - begin);
                    begin = i;
                }
            }
        }

        /** Copies the set to the room, rising by key; those of one key keep their order. */
        private void sortByKey(Layer layer, int from, int size, int room) {
            int least = KEYS;
            int greatest = NONE;
            for (int i = from; i < from + size; i++) {
                int key = keyOf(layer, at(i));
                least = Math.min(least, key);
                greatest = Math.max(greatest, key);
            }
            // Most sets are small, so only the keys between their own ones are gone through.
            for (int key = least; key <= greatest; key++) {
                keyEnds[key] = 0;
            }
            for (int i = from; i < from + size; i++) {
                keyEnds[keyOf(layer, at(i))]++;
            }
            for (int key = least + 1; key <= greatest; key++) {
                keyEnds[key] += keyEnds[key - 1];
            }
            for (int i = from + size - 1; i >= from; i--) {
                int key = keyOf(layer, at(i));
                keyEnds[key]--;
                put(room + keyEnds[key], at(i));
            }
        }

        /** What the places of one part have in common, from 0 to KEYS - 1. */
        private int keyOf(Layer layer, int place) {
            int x = xOf(place);
            int y = yOf(place);
            int key;
            switch (layer.word) {
                case ROW:
                    key = y;
                    break;
                case COLUMN:
                    key = x;
                    break;
                case DIAGONAL:
                    key = x - y + MOST_SIDE - 1;
                    break;
                case ANTI:
                    key = x + y;
                    break;
                default:
                    key = wholePart(y, layer.second) * MOST_SIDE + wholePart(x, layer.first);
                    break;
            }
            return Math.max(0, Math.min(key, KEYS - 1));
        }

        private static int wholePart(int number, int divisor) {
            return divisor > 0 ? number / divisor : 0;
        }

        private int xOf(int place) {
            return width > 0 ? place % width : 0;
        }

        private int yOf(int place) {
            return width > 0 ? place / width : 0;
        }

        private boolean hasRight(int place) {
            return xOf(place) + 1 < width;
        }

        /** Is the place in the piece of sets from start to before end? It rises, so one pass tells. */
        private boolean holds(int start, int end, int place) {
            int i = start;
            while (i < end && at(i) < place) {
                i++;
            }
            return i < end && at(i) == place;
        }

        private static int roomBehind(int level) {
            return (level + 1) * MOST_PLACES;
        }

        private int at(int i) {
            return i >= 0 && i < sets.length ? sets[i] : 0;
        }

        private void put(int i, int place) {
            if (i >= 0 && i < sets.length) {
                sets[i] = place;
            }
        }
    }
}
