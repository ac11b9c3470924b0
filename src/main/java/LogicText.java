import java.util.Arrays;

/** Texts of a small logic language, read into items and nodes, and told back. */
public final class LogicText {
    public static final int NONE = -1;

    private static final int MOST_WAITING = 20;
    private static final int MOST_BYTES = 3000;
    private static final int MOST_LETTERS = 16;
    private static final int MOST_ITEMS = 120;
    private static final int MOST_NAMES = 150;
    private static final int MOST_NODES = 1200;
    private static final int MOST_SUMS = 40;
    private static final int MOST_AROUND = 20;
    // A NAME in a declaration has a sign behind it: two bytes at least.
    private static final int MOST_LISTED = MOST_BYTES / 2;
    // Telling puts at most one blank to each WORD, and each WORD has a byte.
    private static final int MOST_TOLD = 2 * MOST_BYTES;
    // Twenty brackets of three nodes, twenty tests of two and forty sums stay under it.
    private static final int DEEPEST = 200;
    private static final long MOST_VALUE = 2147483647L;
    // The least NUMBER that is too much even behind a minus.
    private static final long TOO_MUCH = MOST_VALUE + 2;

    private static final int STRANGE_BYTE = 1;
    private static final int LONG_NAME = 2;
    private static final int BIG_NUMBER = 3;
    private static final int MISPLACED = 4;
    private static final int TOO_DEEP = 5;
    private static final int NO_ROOM = 6;

    private static final int TYPE = 0;
    private static final int PRED = 1;
    private static final int MODE = 2;
    private static final int CLAUSE = 3;

    // SORTS of nodes; a WORD that makes a node has its SORT as its kind.
    private static final int VARIABLE = 0;
    private static final int NUMBER = 1;
    private static final int NAME = 2;
    private static final int PLUS = 3;
    private static final int MINUS = 4;
    private static final int TIMES = 5;
    private static final int OVER = 6;
    private static final int MOD = 7;
    private static final int TRUE = 10;
    private static final int FAIL = 11;
    private static final int EQUAL = 12;
    private static final int UNEQUAL = 13;
    private static final int IS = 14;
    private static final int LESS = 15;
    private static final int AT_MOST = 16;
    private static final int MORE = 17;
    private static final int AT_LEAST = 18;
    private static final int SAME = 19;
    private static final int DIFFERENT = 20;
    private static final int CALL = 21;
    private static final int NOT = 22;
    private static final int ROW = 23;
    private static final int CHOICE = 24;
    private static final int TEST = 25;

    // Kinds of the WORDS that make a node only at times, or never.
    private static final int COMMA = ROW;
    private static final int SEMICOLON = CHOICE;
    private static final int THEN = TEST;
    private static final int OPEN = 30;
    private static final int CLOSE = 31;
    private static final int DOT = 32;
    private static final int IF = 33;
    private static final int ARROW = 34;
    private static final int END = 35;
    private static final int BAD = 36;

    private final int[] waiting;
    private final byte[] text;
    private int length;
    private Book book;
    private final Reader reader;
    private final Out out;

    public LogicText() {
        waiting = new int[MOST_WAITING / 4];
        text = new byte[MOST_BYTES];
        length = 0;
        book = new Book();
        reader = new Reader();
        out = new Out();
    }

    public void feed(int a, int b, int c, int d, int e) {
        waiting[0] = a;
        waiting[1] = b;
        waiting[2] = c;
        waiting[3] = d;
        waiting[4] = e;
    }

    public int end(int n) {
        if (n < 0 || n > MOST_WAITING || n > MOST_BYTES - length) {
            return NONE;
        }
        for (int i = 0; i < n; i++) {
            text[length + i] = (byte) (waiting[i / 4] >> (24 - 8 * (i % 4)));
        }
        length += n;
        Arrays.fill(waiting, 0);
        return length;
    }

    public int read() throws IllegalArgumentException {
        int taken = length;
        length = 0;
        book = reader.readText(text, taken, book);
        return book.items.count;
    }

    public int fault(int what) {
        switch (what) {
            case 0: return reader.faultNumber;
            case 1: return reader.faultPlace;
            default: return NONE;
        }
    }

    public int count(int what) {
        switch (what) {
            case 0: return book.items.count;
            case 1: return book.nodes.count;
            case 2: return book.names.count;
            default: return NONE;
        }
    }

    public int item(int k, int what) {
        Items items = book.items;
        if (!items.has(k)) {
            return NONE;
        }
        switch (what) {
            case 0: return items.sorts[k];
            case 1: return items.nameNumbers[k];
            case 2: return items.sizes[k];
            case 3: return items.ways[k];
            case 4: return items.goals[k];
            case 5: return items.places[k];
            default: return NONE;
        }
    }

    public int part(int k, int i, int what) {
        Items items = book.items;
        if (!items.has(k) || i < 0 || i >= items.sizes[k]) {
            return NONE;
        }
        if (items.sorts[k] == TYPE) {
            return items.ofConstructor(items.constructorAt(k, i), what);
        }
        if (what != 0) {
            return NONE;
        }
        if (items.sorts[k] == CLAUSE) {
            return book.nodes.follower(items.starts[k], i);
        }
        return items.listedAt(items.starts[k] + i);
    }

    public int node(int n, int what) {
        Nodes nodes = book.nodes;
        if (!nodes.has(n)) {
            return NONE;
        }
        switch (what) {
            case 0: return nodes.sorts[n];
            case 1: return nodes.values[n];
            case 2: return nodes.partsOf(n);
            case 3: return nodes.places[n];
            default: break;
        }
        if (what < 4 || what - 4 >= nodes.partsOf(n)) {
            return NONE;
        }
        return nodes.follower(n + 1, what - 4);
    }

    public int name(int k, int i) {
        return book.names.letterOf(k, i);
    }

    public int find(long first, long second) {
        long packedFirst = 0;
        long packedSecond = 0;
        int letters = 0;
        for (int i = 0; i < MOST_LETTERS; i++) {
            long letter = (i < 8 ? first : second) >> (56 - 8 * (i % 8)) & 255;
            if (letter == 0) {
                continue;
            }
            long shifted = letter << (56 - 8 * (letters % 8));
            if (letters < 8) {
                packedFirst |= shifted;
            } else {
                packedSecond |= shifted;
            }
            letters++;
        }
        return book.names.numberOf(packedFirst, packedSecond);
    }

    public int tell(int k) {
        if (!book.items.has(k)) {
            return NONE;
        }
        new Teller(book, out).writeItem(k);
        return out.length;
    }

    public int letter(int i) {
        return out.byteAt(i);
    }

    /** What one text was read into. */
    private static final class Book {
        final Names names;
        final Items items;
        final Nodes nodes;

        Book() {
            names = new Names();
            items = new Items();
            nodes = new Nodes();
        }

        void clear() {
            names.count = 0;
            items.count = 0;
            items.listedCount = 0;
            nodes.count = 0;
        }
    }

    /** Names by their numbers, the letters of each from the highest byte of firsts on. */
    private static final class Names {
        private final long[] firsts;
        private final long[] seconds;
        int count;

        Names() {
            firsts = new long[MOST_NAMES];
            seconds = new long[MOST_NAMES];
            count = 0;
        }

        int numberOf(long first, long second) {
            for (int k = 0; k < count && k < MOST_NAMES; k++) {
                if (firsts[k] == first && seconds[k] == second) {
                    return k;
                }
            }
            return NONE;
        }

        void add(long first, long second) {
            if (count >= 0 && count < MOST_NAMES) {
                firsts[count] = first;
                seconds[count] = second;
                count++;
            }
        }

        int letterOf(int k, int i) {
            if (k < 0 || k >= count || k >= MOST_NAMES || i < 0 || i >= MOST_LETTERS) {
                return NONE;
            }
            long letter = (i < 8 ? firsts[k] : seconds[k]) >> (56 - 8 * (i % 8)) & 255;
            return letter == 0 ? NONE : (int) letter;
        }
    }

    /** ITEMS, and for declarations the row of what they list. */
    private static final class Items {
        // A CONSTRUCTOR's entry in the row is its name's number and, above it, how many NAMES follow.
        private static final int ONE_FIELD = 256;

        final int[] sorts;
        final int[] nameNumbers;
        final int[] sizes;
        final int[] ways;
        final int[] goals;
        final int[] places;
        // Where its parts begin: in the row, or of a CLAUSE among the nodes.
        final int[] starts;
        private final int[] listed;
        int count;
        int listedCount;

        Items() {
            sorts = new int[MOST_ITEMS];
            nameNumbers = new int[MOST_ITEMS];
            sizes = new int[MOST_ITEMS];
            ways = new int[MOST_ITEMS];
            goals = new int[MOST_ITEMS];
            places = new int[MOST_ITEMS];
            starts = new int[MOST_ITEMS];
            listed = new int[MOST_LISTED];
            count = 0;
            listedCount = 0;
        }

        boolean has(int k) {
            return k >= 0 && k < count && k < MOST_ITEMS;
        }

        /** Begins an ITEM: its number. */
        int begin(int sort, int nameNumber, int place, int start) {
            int k = count;
            if (k >= 0 && k < MOST_ITEMS) {
                sorts[k] = sort;
                nameNumbers[k] = nameNumber;
                sizes[k] = 0;
                ways[k] = NONE;
                goals[k] = NONE;
                places[k] = place;
                starts[k] = start;
                count++;
            }
            return k;
        }

        void setSize(int k, int size) {
            if (has(k)) {
                sizes[k] = size;
            }
        }

        void setWay(int k, int way) {
            if (has(k)) {
                ways[k] = way;
            }
        }

        void setGoal(int k, int goal) {
            if (has(k)) {
                goals[k] = goal;
            }
        }

        void list(int entry) {
            if (listedCount >= 0 && listedCount < MOST_LISTED) {
                listed[listedCount] = entry;
                listedCount++;
            }
        }

        void setFields(int constructor, int fields) {
            if (constructor >= 0 && constructor < listedCount && constructor < MOST_LISTED) {
                listed[constructor] += ONE_FIELD * fields;
            }
        }

        int listedAt(int at) {
            return at >= 0 && at < listedCount && at < MOST_LISTED ? listed[at] : 0;
        }

        /** Where in the row CONSTRUCTOR i of the type k stands. */
        int constructorAt(int k, int i) {
            int at = has(k) ? starts[k] : 0;
            for (int passed = 0; passed < i; passed++) {
                at = behindConstructor(at);
            }
            return at;
        }

        int behindConstructor(int at) {
            return at + 1 + listedAt(at) / ONE_FIELD;
        }

        int ofConstructor(int at, int what) {
            int fields = listedAt(at) / ONE_FIELD;
            if (what == 0) {
                return listedAt(at) % ONE_FIELD;
            }
            if (what == 1) {
                return fields;
            }
            if (what < 2 || what - 2 >= fields) {
                return NONE;
            }
            return listedAt(at + what - 1);
        }
    }

    /** NODES, each ahead of its parts: a node's size, parts within it, tells where the next begins. */
    private static final class Nodes {
        final int[] sorts;
        final int[] values;
        final int[] places;
        private final int[] sizes;
        int count;

        Nodes() {
            sorts = new int[MOST_NODES];
            values = new int[MOST_NODES];
            places = new int[MOST_NODES];
            sizes = new int[MOST_NODES];
            count = 0;
        }

        boolean has(int n) {
            return n >= 0 && n < count && n < MOST_NODES;
        }

        int sortOf(int n) {
            return has(n) ? sorts[n] : NONE;
        }

        int valueOf(int n) {
            return has(n) ? values[n] : NONE;
        }

        int sizeOf(int n) {
            return has(n) ? sizes[n] : 1;
        }

        int partsOf(int n) {
            int parts = 0;
            int behind = Math.min(n + sizeOf(n), count);
            for (int part = n + 1; part < behind; part += Math.max(1, sizeOf(part))) {
                parts++;
            }
            return parts;
        }

        /** The node that comes so many nodes, each with its parts, behind n. */
        int follower(int n, int steps) {
            int at = n;
            for (int i = 0; i < steps; i++) {
                at += sizeOf(at);
            }
            return at;
        }

        /** Puts a node ahead of those from n on, which are to be its first part. */
        void insert(int n, int sort, int value, int place) {
            if (n < 0 || n > count || count >= MOST_NODES) {
                return;
            }
            System.arraycopy(sorts, n, sorts, n + 1, count - n);
            System.arraycopy(values, n, values, n + 1, count - n);
            System.arraycopy(places, n, places, n + 1, count - n);
            System.arraycopy(sizes, n, sizes, n + 1, count - n);
            sorts[n] = sort;
            values[n] = value;
            places[n] = place;
            sizes[n] = 1;
            count++;
        }

        /** All nodes behind n are parts within it. */
        void close(int n) {
            if (has(n)) {
                sizes[n] = count - n;
            }
        }

        void setSort(int n, int sort) {
            if (has(n)) {
                sorts[n] = sort;
            }
        }

        void setValue(int n, int value) {
            if (has(n)) {
                values[n] = value;
            }
        }
    }

    /** The WORDS of a text, one at a time. */
    private static final class Words {
        private byte[] text;
        private int length;
        private int behind;
        int kind;
        int place;
        // The fault that the word has wherever it stands, or 0.
        int trouble;
        // Letters of a NAME or VARIABLE, as Names holds them.
        long first;
        long second;
        long value;

        Words() {
            text = new byte[0];
            length = 0;
            behind = 0;
            kind = END;
            place = 0;
            trouble = 0;
        }

        void begin(byte[] bytes, int taken) {
            text = bytes;
            length = Math.max(0, Math.min(taken, bytes.length));
            behind = 0;
            advance();
        }

        void advance() {
            passBlanks();
            place = behind;
            trouble = 0;
            int c = byteAt(place);
            if (c == NONE) {
                kind = END;
            } else if (c >= '0' && c <= '9') {
                takeNumber();
            } else if (isWordByte(c)) {
                takeName(c >= 'a' ? NAME : VARIABLE);
            } else {
                takeSign(c, byteAt(place + 1));
            }
        }

        private int byteAt(int i) {
            return i >= 0 && i < length ? text[i] & 255 : NONE;
        }

        /** Whether the word is just these letters. */
        boolean spells(String letters) {
            if (behind - place != letters.length() || place < 0 || behind > length) {
                return false;
            }
            for (int i = 0; i < letters.length(); i++) {
                if (text[place + i] != letters.charAt(i)) {
                    return false;
                }
            }
            return true;
        }

        private static boolean isWordByte(int c) {
            return c >= 'a' && c <= 'z' || c >= 'A' && c <= 'Z' || c == '_' || c >= '0' && c <= '9';
        }

        private void passBlanks() {
            boolean remark = false;
            for (; behind < length; behind++) {
                int c = text[behind];
                if (c == '\n') {
                    remark = false;
                } else if (c == '%') {
                    remark = true;
                } else if (!remark && c != ' ' && c != '\t') {
                    return;
                }
            }
        }

        private void takeNumber() {
            kind = NUMBER;
            value = 0;
            for (; behind < length && text[behind] >= '0' && text[behind] <= '9'; behind++) {
                value = Math.min(value * 10 + text[behind] - '0', TOO_MUCH);
            }
            if (value > MOST_VALUE) {
                trouble = BIG_NUMBER;
            }
        }

        private void takeName(int usualKind) {
            first = 0;
            second = 0;
            for (; behind < length && isWordByte(text[behind]); behind++) {
                int i = behind - place;
                long letter = (long) text[behind] << (56 - 8 * (i % 8));
                if (i < 8) {
                    first |= letter;
                } else {
                    second |= letter;
                }
            }
            kind = usualKind;
            if (behind - place > MOST_LETTERS) {
                kind = BAD;
                trouble = LONG_NAME;
            } else if (spells("not")) {
                kind = NOT;
            } else if (spells("true")) {
                kind = TRUE;
            } else if (spells("fail")) {
                kind = FAIL;
            } else if (spells("is")) {
                kind = IS;
            } else if (spells("mod")) {
                kind = MOD;
            }
        }

        private void takeSign(int c, int next) {
            boolean closed = byteAt(place + 2) == '=';
            switch (c) {
                case '(': setSign(OPEN, 1); break;
                case ')': setSign(CLOSE, 1); break;
                case ',': setSign(COMMA, 1); break;
                case '.': setSign(DOT, 1); break;
                case ';': setSign(SEMICOLON, 1); break;
                case '+': setSign(PLUS, 1); break;
                case '*': setSign(TIMES, 1); break;
                case '<': setSign(LESS, 1); break;
                case '/': setSign(next == '/' ? OVER : BAD, 2); break;
                case ':': setSign(next == '-' ? IF : BAD, 2); break;
                case '\\': setSign(next == '=' ? UNEQUAL : BAD, 2); break;
                case '>':
                    if (next == '=') {
                        setSign(AT_LEAST, 2);
                    } else {
                        setSign(MORE, 1);
                    }
                    break;
                case '-':
                    if (next == '>') {
                        setSign(THEN, 2);
                    } else if (next == '-' && byteAt(place + 2) == '-' && byteAt(place + 3) == '>') {
                        setSign(ARROW, 4);
                    } else {
                        setSign(MINUS, 1);
                    }
                    break;
                case '=':
                    if (next == '<') {
                        setSign(AT_MOST, 2);
                    } else if (next == ':' && closed) {
                        setSign(SAME, 3);
                    } else if (next == '\\' && closed) {
                        setSign(DIFFERENT, 3);
                    } else {
                        setSign(EQUAL, 1);
                    }
                    break;
                default: setSign(BAD, 1); break;
            }
        }

        private void setSign(int sign, int bytes) {
            kind = sign;
            behind = place + bytes;
            trouble = sign == BAD ? STRANGE_BYTE : 0;
        }
    }

    /**
     * Reads a text into a book. All that can be wrong with a word is looked at before
     * the next one is, the least fault's number first: so the first fault is the one met first.
     * In all methods depth is how many ( and not stand around, tests how many TESTS' last parts.
     */
    private static final class Reader {
        private final Words words;
        // Not the one that was read before, so that a fault leaves that as it is.
        private Book book;
        private int sums;
        int faultNumber;
        int faultPlace;

        Reader() {
            words = new Words();
            book = new Book();
            sums = 0;
            faultNumber = 0;
            faultPlace = NONE;
        }

        /** The book of the text; the one that was read before is the next text's. */
        Book readText(byte[] text, int taken, Book before) {
            book.clear();
            faultNumber = 0;
            faultPlace = NONE;
            words.begin(text, taken);
            for (int i = 0; i < MOST_BYTES && words.kind != END; i++) {
                if (words.kind != IF && words.kind != NAME) {
                    refuse();
                }
                if (book.items.count >= MOST_ITEMS) {
                    fail(NO_ROOM);
                }
                int place = words.place;
                if (!passed(IF)) {
                    readClause(place);
                } else if (passedLetters("type")) {
                    readType(place);
                } else if (passedLetters("pred")) {
                    readPred(place);
                } else if (passedLetters("mode")) {
                    readMode(place);
                } else {
                    refuse();
                }
                pass(DOT);
            }
            Book done = book;
            book = before;
            return done;
        }

        private void fail(int number) {
            faultNumber = number;
            faultPlace = words.place;
            throw new IllegalArgumentException("a fault in the text");
        }

        private void refuse() {
            fail(words.trouble == 0 ? MISPLACED : words.trouble);
        }

        private void pass(int kind) {
            if (words.kind != kind) {
                refuse();
            }
            words.advance();
        }

        private boolean passed(int kind) {
            if (words.kind != kind) {
                return false;
            }
            words.advance();
            return true;
        }

        private boolean passedLetters(String letters) {
            if (!words.spells(letters)) {
                return false;
            }
            words.advance();
            return true;
        }

        /** Passes a ( that can stand here. */
        private void passOpen(int depth) {
            if (depth >= MOST_AROUND) {
                fail(TOO_DEEP);
            }
            words.advance();
        }

        private void readType(int place) {
            Items items = book.items;
            int k = items.begin(TYPE, passName(), place, items.listedCount);
            pass(ARROW);
            int constructors = 0;
            for (int i = 0; i < MOST_BYTES; i++) {
                int at = items.listedCount;
                items.list(passName());
                items.setFields(at, readListed(TYPE));
                constructors++;
                if (!passed(SEMICOLON)) {
                    break;
                }
            }
            items.setSize(k, constructors);
        }

        private void readPred(int place) {
            Items items = book.items;
            int k = items.begin(PRED, passName(), place, items.listedCount);
            items.setSize(k, readListed(PRED));
        }

        private void readMode(int place) {
            Items items = book.items;
            int k = items.begin(MODE, passName(), place, items.listedCount);
            items.setSize(k, readListed(MODE));
            pass(IS);
            items.setWay(k, passWay());
        }

        /** Perhaps in ( ) what a declaration of this sort lists: how many. */
        private int readListed(int sort) {
            if (!passed(OPEN)) {
                return 0;
            }
            int listed = 0;
            for (int i = 0; i < MOST_BYTES; i++) {
                book.items.list(sort == MODE ? passDirection() : passName());
                listed++;
                if (!passed(COMMA)) {
                    break;
                }
            }
            pass(CLOSE);
            return listed;
        }

        private int passDirection() {
            boolean in = words.spells("in");
            if (!in && !words.spells("out")) {
                refuse();
            }
            words.advance();
            return in ? 0 : 1;
        }

        private int passWay() {
            if (passedLetters("det")) {
                return 0;
            }
            if (passedLetters("semidet")) {
                return 1;
            }
            if (passedLetters("multi")) {
                return 2;
            }
            if (!passedLetters("nondet")) {
                refuse();
            }
            return 3;
        }

        private void readClause(int place) {
            Items items = book.items;
            int k = items.begin(CLAUSE, passName(), place, book.nodes.count);
            items.setSize(k, readList(0));
            if (passed(IF)) {
                items.setGoal(k, book.nodes.count);
                readGoal(0, 0);
            }
        }

        private int passName() {
            if (words.kind != NAME) {
                refuse();
            }
            int number = numberName();
            words.advance();
            return number;
        }

        private int numberName() {
            Names names = book.names;
            int number = names.numberOf(words.first, words.second);
            if (number != NONE) {
                return number;
            }
            if (names.count >= MOST_NAMES) {
                fail(NO_ROOM);
            }
            names.add(words.first, words.second);
            return names.count - 1;
        }

        private void addNode(int sort, int value) {
            insertNode(book.nodes.count, sort, value);
        }

        /** Makes a node at this word, with what was read from n on as its first part. */
        private void insertNode(int n, int sort, int value) {
            if (book.nodes.count >= MOST_NODES) {
                fail(NO_ROOM);
            }
            book.nodes.insert(n, sort, value, words.place);
        }

        /** Perhaps TERMS in ( ): how many. */
        private int readList(int depth) {
            if (words.kind != OPEN) {
                return 0;
            }
            passOpen(depth);
            int terms = 0;
            for (int i = 0; i < MOST_BYTES; i++) {
                readTerm(depth + 1);
                terms++;
                if (!passed(COMMA)) {
                    break;
                }
            }
            pass(CLOSE);
            return terms;
        }

        private void readTerm(int depth) {
            int n = book.nodes.count;
            switch (words.kind) {
                case VARIABLE:
                    addNode(VARIABLE, words.spells("_") ? NONE : numberName());
                    words.advance();
                    break;
                case NUMBER:
                    if (words.trouble != 0) {
                        refuse();
                    }
                    addNode(NUMBER, (int) words.value);
                    words.advance();
                    break;
                case MINUS:
                    readNegative(n);
                    break;
                case NAME:
                    addNode(NAME, numberName());
                    words.advance();
                    readList(depth);
                    book.nodes.close(n);
                    break;
                default:
                    refuse();
                    break;
            }
        }

        private void readNegative(int n) {
            addNode(NUMBER, 0);
            words.advance();
            if (words.kind != NUMBER || words.value >= TOO_MUCH) {
                refuse();
            }
            book.nodes.setValue(n, (int) -words.value);
            words.advance();
        }

        private void readSum(int depth) {
            int n = book.nodes.count;
            readFactor(depth);
            continueSum(n, depth);
        }

        /** The rest of a SUM whose first factor was read from n on. */
        private void continueSum(int n, int depth) {
            continueProduct(n, depth);
            for (int i = 0; i <= MOST_SUMS && (words.kind == PLUS || words.kind == MINUS); i++) {
                passOperator(n);
                int right = book.nodes.count;
                readFactor(depth);
                continueProduct(right, depth);
                book.nodes.close(n);
            }
        }

        private void continueProduct(int n, int depth) {
            for (int i = 0; i <= MOST_SUMS && words.kind >= TIMES && words.kind <= MOD; i++) {
                passOperator(n);
                readFactor(depth);
                book.nodes.close(n);
            }
        }

        private void passOperator(int n) {
            if (sums >= MOST_SUMS) {
                fail(NO_ROOM);
            }
            sums++;
            insertNode(n, words.kind, 0);
            words.advance();
        }

        private void readFactor(int depth) {
            if (words.kind != OPEN) {
                readTerm(depth);
                return;
            }
            passOpen(depth);
            readSum(depth + 1);
            pass(CLOSE);
        }

        private void readGoal(int depth, int tests) {
            int n = book.nodes.count;
            boolean choice = false;
            for (int i = 0; i < MOST_BYTES; i++) {
                int part = book.nodes.count;
                readRow(depth, tests);
                if (words.kind == THEN) {
                    continueTest(part, depth, tests);
                    break;
                }
                if (words.kind != SEMICOLON) {
                    break;
                }
                if (!choice) {
                    insertNode(n, CHOICE, 0);
                    choice = true;
                }
                words.advance();
            }
            if (choice) {
                book.nodes.close(n);
            }
        }

        /** The rest of a TEST, from its -> on, whose first ROW was read from n on. */
        private void continueTest(int n, int depth, int tests) {
            if (tests >= MOST_AROUND) {
                fail(TOO_DEEP);
            }
            insertNode(n, TEST, 0);
            words.advance();
            readRow(depth, tests);
            pass(SEMICOLON);
            readGoal(depth, tests + 1);
            book.nodes.close(n);
        }

        private void readRow(int depth, int tests) {
            int n = book.nodes.count;
            readSingle(depth, tests);
            if (words.kind != COMMA) {
                return;
            }
            insertNode(n, ROW, 0);
            for (int i = 0; i < MOST_BYTES && passed(COMMA); i++) {
                readSingle(depth, tests);
            }
            book.nodes.close(n);
        }

        private void readSingle(int depth, int tests) {
            switch (words.kind) {
                case OPEN:
                    passOpen(depth);
                    readGoal(depth + 1, tests);
                    pass(CLOSE);
                    break;
                case NOT:
                    readNot(depth, tests);
                    break;
                case TRUE:
                case FAIL:
                    addNode(words.kind, 0);
                    words.advance();
                    break;
                default:
                    readPlain(depth);
                    break;
            }
        }

        private void readNot(int depth, int tests) {
            if (depth >= MOST_AROUND) {
                fail(TOO_DEEP);
            }
            int n = book.nodes.count;
            addNode(NOT, 0);
            words.advance();
            readSingle(depth + 1, tests);
            book.nodes.close(n);
        }

        /** A SINGLE that begins with a TERM; which one it is shows only behind that. */
        private void readPlain(int depth) {
            int n = book.nodes.count;
            int begun = words.kind;
            sums = 0;
            readTerm(depth);
            if (words.kind >= PLUS && words.kind <= MOD) {
                continueSum(n, depth);
                if (!isComparison(words.kind)) {
                    refuse();
                }
            }
            int kind = words.kind;
            boolean ofTerms = kind == EQUAL || kind == UNEQUAL;
            boolean ofSums = isComparison(kind) || kind == IS && begun == VARIABLE;
            if (!ofTerms && !ofSums) {
                if (begun != NAME) {
                    refuse();
                }
                book.nodes.setSort(n, CALL);
                return;
            }
            insertNode(n, kind, 0);
            words.advance();
            if (ofTerms) {
                readTerm(depth);
            } else {
                readSum(depth);
            }
            book.nodes.close(n);
        }

        private static boolean isComparison(int kind) {
            return kind >= LESS && kind <= DIFFERENT;
        }
    }

    /** The text that an ITEM was told as. */
    private static final class Out {
        private final byte[] bytes;
        int length;

        Out() {
            bytes = new byte[MOST_TOLD];
            length = 0;
        }

        int byteAt(int i) {
            return i >= 0 && i < length && i < MOST_TOLD ? bytes[i] & 255 : NONE;
        }

        void putByte(int letter) {
            if (length >= 0 && length < MOST_TOLD) {
                bytes[length] = (byte) letter;
                length++;
            }
        }

        void put(String letters) {
            for (int i = 0; i < letters.length(); i++) {
                putByte(letters.charAt(i));
            }
        }

        void putNumber(int number) {
            long rest = number;
            if (rest < 0) {
                putByte('-');
                rest = -rest;
            }
            boolean begun = false;
            for (long unit = 1000000000L; unit > 0; unit /= 10) {
                long digit = rest / unit % 10;
                begun = begun || digit > 0 || unit == 1;
                if (begun) {
                    putByte('0' + (int) digit);
                }
            }
        }
    }

    /** Writes an ITEM as a text. */
    private static final class Teller {
        private final Book book;
        private final Out out;

        Teller(Book from, Out to) {
            book = from;
            out = to;
        }

        void writeItem(int k) {
            Items items = book.items;
            if (!items.has(k)) {
                return;
            }
            out.length = 0;
            switch (items.sorts[k]) {
                case TYPE: writeType(k); break;
                case PRED: writePred(k); break;
                case MODE: writeMode(k); break;
                default: writeClause(k); break;
            }
            out.put(".");
        }

        private void writeType(int k) {
            Items items = book.items;
            out.put(":- type ");
            putName(items.nameNumbers[k]);
            out.put(" ---> ");
            int at = items.starts[k];
            for (int i = 0; i < items.sizes[k]; i++) {
                if (i > 0) {
                    out.put(" ; ");
                }
                putName(items.ofConstructor(at, 0));
                putNames(at + 1, items.ofConstructor(at, 1));
                at = items.behindConstructor(at);
            }
        }

        private void writePred(int k) {
            Items items = book.items;
            out.put(":- pred ");
            putName(items.nameNumbers[k]);
            putNames(items.starts[k], items.sizes[k]);
        }

        private void writeMode(int k) {
            Items items = book.items;
            out.put(":- mode ");
            putName(items.nameNumbers[k]);
            for (int i = 0; i < items.sizes[k]; i++) {
                out.put(i == 0 ? "(" : ", ");
                out.put(items.listedAt(items.starts[k] + i) == 0 ? "in" : "out");
            }
            if (items.sizes[k] > 0) {
                out.put(")");
            }
            out.put(" is ");
            switch (items.ways[k]) {
                case 0: out.put("det"); break;
                case 1: out.put("semidet"); break;
                case 2: out.put("multi"); break;
                default: out.put("nondet"); break;
            }
        }

        private void putNames(int start, int names) {
            for (int i = 0; i < names; i++) {
                out.put(i == 0 ? "(" : ", ");
                putName(book.items.listedAt(start + i));
            }
            if (names > 0) {
                out.put(")");
            }
        }

        private void writeClause(int k) {
            Items items = book.items;
            putName(items.nameNumbers[k]);
            writeList(items.starts[k], items.sizes[k], 0);
            if (items.goals[k] != NONE) {
                out.put(" :- ");
                writeGoal(items.goals[k], 0);
            }
        }

        /** So many terms in ( ), the first being node n. */
        private void writeList(int n, int terms, int depth) {
            int term = n;
            for (int i = 0; i < terms; i++) {
                out.put(i == 0 ? "(" : ", ");
                writeTerm(term, depth + 1);
                term += book.nodes.sizeOf(term);
            }
            if (terms > 0) {
                out.put(")");
            }
        }

        private void writeTerm(int n, int depth) {
            if (depth > DEEPEST) {
                return;
            }
            int value = book.nodes.valueOf(n);
            switch (book.nodes.sortOf(n)) {
                case VARIABLE:
                    if (value == NONE) {
                        out.put("_");
                    } else {
                        putName(value);
                    }
                    break;
                case NUMBER:
                    out.putNumber(value);
                    break;
                default:
                    putName(value);
                    writeList(n + 1, book.nodes.partsOf(n), depth);
                    break;
            }
        }

        private void writeSum(int n, int depth) {
            if (depth > DEEPEST) {
                return;
            }
            int sort = book.nodes.sortOf(n);
            if (sort < PLUS || sort > MOD) {
                writeTerm(n, depth);
                return;
            }
            int side = n + 1;
            for (int i = 0; i < 2; i++) {
                if (i == 1) {
                    out.put(signOf(sort));
                }
                // The left side may bind as much, the right one has to bind more.
                boolean closed = bindingOf(book.nodes.sortOf(side)) < bindingOf(sort) + i;
                if (closed) {
                    out.put("(");
                }
                writeSum(side, depth + 1);
                if (closed) {
                    out.put(")");
                }
                side += book.nodes.sizeOf(side);
            }
        }

        private static int bindingOf(int sort) {
            if (sort == PLUS || sort == MINUS) {
                return 0;
            }
            return sort >= TIMES && sort <= MOD ? 1 : 2;
        }

        private void writeGoal(int n, int depth) {
            if (depth > DEEPEST) {
                return;
            }
            int sort = book.nodes.sortOf(n);
            if (sort < NOT) {
                writePlain(n, depth);
                return;
            }
            if (sort == NOT) {
                out.put("not ");
            }
            int parts = book.nodes.partsOf(n);
            int part = n + 1;
            for (int i = 0; i < parts; i++) {
                if (i > 0) {
                    out.put(signBetween(sort, i));
                }
                boolean closed = isClosed(sort, i, parts, book.nodes.sortOf(part));
                if (closed) {
                    out.put("(");
                }
                writeGoal(part, depth + 1);
                if (closed) {
                    out.put(")");
                }
                part += book.nodes.sizeOf(part);
            }
        }

        private static String signBetween(int sort, int i) {
            if (sort == ROW) {
                return ", ";
            }
            return sort == TEST && i == 1 ? " -> " : " ; ";
        }

        /** Whether part i of a goal stands in ( ). */
        private static boolean isClosed(int sort, int i, int parts, int sortOfPart) {
            if (sort == CHOICE) {
                return sortOfPart == CHOICE || sortOfPart == TEST && i < parts - 1;
            }
            if (sort == TEST) {
                return i < 2 && (sortOfPart == CHOICE || sortOfPart == TEST);
            }
            return sortOfPart >= ROW;
        }

        private void writePlain(int n, int depth) {
            int sort = book.nodes.sortOf(n);
            if (sort == TRUE) {
                out.put("true");
            } else if (sort == FAIL) {
                out.put("fail");
            } else if (sort == CALL) {
                writeTerm(n, depth);
            } else {
                writeSum(n + 1, depth);
                out.put(signOf(sort));
                writeSum(book.nodes.follower(n + 1, 1), depth);
            }
        }

        private static String signOf(int sort) {
            switch (sort) {
                case PLUS: return " + ";
                case MINUS: return " - ";
                case TIMES: return " * ";
                case OVER: return " // ";
                case MOD: return " mod ";
                case EQUAL: return " = ";
                case UNEQUAL: return " \\= ";
                case IS: return " is ";
                case LESS: return " < ";
                case AT_MOST: return " =< ";
                case MORE: return " > ";
                case AT_LEAST: return " >= ";
                case SAME: return " =:= ";
                default: return " =\\= ";
            }
        }

        private void putName(int k) {
            for (int i = 0; i < MOST_LETTERS; i++) {
                int letter = book.names.letterOf(k, i);
                if (letter != NONE) {
                    out.putByte(letter);
                }
            }
        }
    }
}
