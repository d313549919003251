import java.util.Arrays;

/**
 * The types of units of a small language: data, records, patterns, local declarations, three classes.
 *
 * <p>A text goes from the tape through {@link Text} (tokens) and {@link Parser} (a tree of {@link Node})
 * into a {@link Unit}; {@link Typer} finds its types in {@link Types} with the help of {@link Heads}
 * (what the unit's data declare) and {@link Wants} (what is asked of the classes); {@link Matcher} compares
 * schemes with types for holes and given types, and {@link Writer} writes schemes.
 */
public final class TypeInference {
    public static final int NONE = -1;

    private static final int TAPE_BYTES = 1500;
    private static final int MOST_TOKENS = 300;
    private static final int MOST_NODES = 1200;
    private static final int MOST_LEVELS = 40;
    private static final int MOST_PARTS = 60;
    private static final int MOST_TYPES = 5;
    private static final int MOST_BINDINGS = 128;
    private static final int BITS = 64;
    private static final int FAR = 1000000;

    /* Kinds of tokens; a token of one byte that is no name has its byte as its kind. */
    private static final int END = 0;
    private static final int BAD = 1;
    private static final int LOW = 2;
    private static final int HOLE = 3;
    private static final int BLANK = 4;
    private static final int HIGH = 5;
    private static final int NUMBER = 6;
    private static final int SIGN = 7;
    private static final int ARROW = 8;
    private static final int OF_TYPE = 9;
    private static final int IMPLIES = 10;
    private static final int DATA = 11;
    private static final int DERIVING = 12;
    private static final int LET = 13;
    private static final int IN = 14;
    private static final int CASE = 15;
    private static final int OF = 16;
    private static final int IF = 17;
    private static final int THEN = 18;
    private static final int ELSE = 19;
    private static final String WORDS = "data deriving let in case of if then else ";

    /* Kinds of nodes; a node that is one token, LET, IF, CASE and the ARROW of types have the token's kind. */
    private static final int TUPLE = 130;
    private static final int LIST = 131;
    private static final int ROW = 132;
    private static final int CHAIN = 133;
    private static final int COLON = 134;
    private static final int RECORD = 135;
    private static final int UPDATE = 136;
    private static final int BRACE = 137;
    private static final int FIELD = 138;
    private static final int LAMBDA = 139;
    private static final int BRANCH = 140;
    private static final int TYPED = 141;
    private static final int DECLS = 142;
    private static final int DATUM = 143;
    private static final int PARAMETER = 144;
    private static final int PART = 145;
    private static final int DERIVED = 146;
    private static final int GIVEN = 147;
    private static final int CONTEXT = 148;
    private static final int EQUATION = 149;
    private static final int PATTERNED = 150;

    /* What the parser can be asked for. */
    private static final int EXPRESSION = 0;
    private static final int PATTERN = 1;
    private static final int TYPE = 2;

    /* Names that mean something in every unit, by their place here; all other names count from OWN_NAMES. */
    private static final String NAMES = "False True eq less add mul error Int Char Bool Eq Ord Num ";
    private static final int FALSE_NAME = 0;
    private static final int TRUE_NAME = 1;
    private static final int FIRST_KNOWN_LOW = 2;
    private static final int KNOWN = 7;
    private static final int INT_NAME = 7;
    private static final int BOOL_NAME = 9;
    private static final int EQ_NAME = 10;
    private static final int NUM_NAME = 12;
    private static final int OWN_NAMES = 13;

    /* Classes, as bits of a set. */
    private static final int EQ = 1;
    private static final int ORD = 2;
    private static final int NUM = 4;

    /* Kinds of types; the one of data number d is OF_DATA + d. */
    private static final int VARIABLE = 0;
    private static final int FIXED = 1;
    private static final int FUNCTION = 2;
    private static final int INT = 3;
    private static final int CHAR = 4;
    private static final int BOOL = 5;
    private static final int LIST_OF = 6;
    private static final int TUPLE_OF = 7;
    private static final int OF_DATA = 8;

    /* Types that stand at these places in every store. */
    private static final int INT_TYPE = 0;
    private static final int CHAR_TYPE = 1;
    private static final int BOOL_TYPE = 2;

    /* Owners of variables: nobody (the variable is not FREE), and all that is KNOWN or comes of data. */
    private static final int NOBODY = 0;
    private static final int HEADS = 1;

    /* Faults. */
    private static final int NO_TEXT = 1;
    private static final int WRONG_TYPE = 2;
    private static final int TWICE = 3;
    private static final int NO_MEANING = 4;
    private static final int WRONG_COUNT = 5;
    private static final int NOT_ALIKE = 6;
    private static final int ENDLESS = 7;
    private static final int NOT_GIVEN = 8;
    private static final int NOT_SETTLED = 9;
    private static final int TOO_LARGE = 10;

    private static final int NARROW_SETTING = 0;
    private static final int LOCAL_SETTING = 1;

    private final byte[] tape;
    private int taped;
    private Unit unit;
    private Unit spare;
    private final Parser parser;
    private final Typer typer;
    private final Matcher matcher;
    private final Writer writer;
    private boolean narrow;
    private boolean local;
    private boolean typed;
    private int latestFault;

    public TypeInference() {
        tape = new byte[TAPE_BYTES];
        unit = new Unit();
        spare = new Unit();
        parser = new Parser();
        typer = new Typer();
        matcher = new Matcher(typer);
        writer = new Writer(typer);
        narrow = true;
        local = true;
    }

    public int feed(int a, int b, int c, int d, int e) throws UnsupportedOperationException {
        if (taped + 20 > TAPE_BYTES) {
            throw new UnsupportedOperationException("the tape would have more than 1500 bytes");
        }
        append(a);
        append(b);
        append(c);
        append(d);
        append(e);
        return taped;
    }

    private void append(int four) {
        for (int shift = 24; shift >= 0 && taped < tape.length; shift -= 8) {
            tape[taped] = (byte) (four >>> shift);
            taped++;
        }
    }

    public int cut(int n) throws IllegalArgumentException {
        if (n < 0 || n > taped) {
            throw new IllegalArgumentException("the tape has not so many bytes");
        }
        taped -= n;
        return taped;
    }

    public int read() {
        boolean good = parser.readUnit(spare, tape, taped);
        taped = 0;
        typed = false;
        if (!good) {
            latestFault = NO_TEXT;
            return 1 + parser.at;
        }
        Unit old = unit;
        unit = spare;
        spare = old;
        latestFault = 0;
        return 0;
    }

    public int infer() {
        latestFault = typer.typeUnit(unit, narrow, local);
        typed = latestFault == 0;
        return typed ? 0 : 1 + typer.faultToken;
    }

    public int fault() {
        return latestFault;
    }

    public boolean setting(int what, boolean on) throws IllegalArgumentException {
        if (what != NARROW_SETTING && what != LOCAL_SETTING) {
            throw new IllegalArgumentException("there is no such setting");
        }
        boolean was = what == NARROW_SETTING ? narrow : local;
        if (what == NARROW_SETTING) {
            narrow = on;
        } else {
            local = on;
        }
        return was;
    }

    public int told(int what) {
        switch (what) {
            case 0:
                return unit.text.count;
            case 1:
                return unit.declaredCount();
            case 2:
                return unit.dataCount;
            case 3:
                return unit.partCount;
            case 4:
                return unit.holeCount;
            case 5:
                return typed ? typer.unitGroups : 0;
            default:
                return NONE;
        }
    }

    public int token(int i) throws IndexOutOfBoundsException {
        Low low = unit.declaredLow(i);
        if (low == null) {
            throw new IndexOutOfBoundsException("there is no such name");
        }
        return low.place;
    }

    public int type(int i) throws IndexOutOfBoundsException, IllegalStateException {
        Low low = unit.declaredLow(i);
        if (low == null) {
            throw new IndexOutOfBoundsException("there is no such name");
        }
        if (!typed) {
            throw new IllegalStateException("the unit is not typed");
        }
        return writer.writeScheme(low.scheme, low.owner);
    }

    public int group(int i) throws IndexOutOfBoundsException, IllegalStateException {
        Low low = unit.declaredLow(i);
        if (low == null) {
            throw new IndexOutOfBoundsException("there is no such name");
        }
        if (!typed) {
            throw new IllegalStateException("the unit is not typed");
        }
        return low.given != null || low.lead == null ? NONE : low.lead.groupNumber;
    }

    public int hole(int k) throws IndexOutOfBoundsException {
        if (k < 0 || k >= unit.holeCount) {
            throw new IndexOutOfBoundsException("there is no such hole");
        }
        return unit.holeTokens[k];
    }

    public int holeType(int k) throws IndexOutOfBoundsException, IllegalStateException {
        if (k < 0 || k >= unit.holeCount) {
            throw new IndexOutOfBoundsException("there is no such hole");
        }
        if (!typed) {
            throw new IllegalStateException("the unit is not typed");
        }
        return writer.writeScheme(typer.holeTypes[k], NOBODY);
    }

    public int fits(int k) throws IndexOutOfBoundsException, IllegalStateException {
        if (k < 0 || k >= unit.holeCount) {
            throw new IndexOutOfBoundsException("there is no such hole");
        }
        if (!typed) {
            throw new IllegalStateException("the unit is not typed");
        }
        matcher.searchNames(unit, k, NONE);
        return matcher.found;
    }

    public int fit(int k, int i) throws IndexOutOfBoundsException, IllegalStateException {
        if (k < 0 || k >= unit.holeCount) {
            throw new IndexOutOfBoundsException("there is no such hole");
        }
        if (!typed) {
            throw new IllegalStateException("the unit is not typed");
        }
        if (i < 0 || !matcher.searchNames(unit, k, i)) {
            throw new IndexOutOfBoundsException("not so many names fit the hole");
        }
        return matcher.answer;
    }

    public boolean covers(int i) throws IndexOutOfBoundsException, IllegalStateException, IllegalArgumentException {
        Low low = unit.declaredLow(i);
        if (low == null) {
            throw new IndexOutOfBoundsException("there is no such name");
        }
        if (!typed) {
            throw new IllegalStateException("the unit is not typed");
        }
        if (!parser.readGiven(spare, tape, taped) || !matcher.isRight(spare)) {
            throw new IllegalArgumentException("the tape is no given type");
        }
        return matcher.isAsGeneral(low, spare);
    }

    public int octet(int i) throws IndexOutOfBoundsException {
        if (i < 0 || i >= writer.size) {
            throw new IndexOutOfBoundsException("not so many bytes were written");
        }
        return writer.bytes[i];
    }

    /** A text and its tokens. What begins no token is the last one, of the kind BAD. */
    private static final class Text {
        private final byte[] bytes = new byte[TAPE_BYTES];
        private int size;
        private final int[] kinds = new int[MOST_TOKENS + 1];
        private final int[] starts = new int[MOST_TOKENS + 1];
        private final int[] ends = new int[MOST_TOKENS + 1];
        private final int[] names = new int[MOST_TOKENS + 1];
        private int count;

        void take(byte[] source, int length) {
            size = Math.max(0, Math.min(length, Math.min(source.length, bytes.length)));
            System.arraycopy(source, 0, bytes, 0, size);
            count = 0;
            int at = afterBlanks(0);
            for (int i = 0; i <= MOST_TOKENS && at < size; i++) {
                int end = i < MOST_TOKENS ? tokenEnd(at) : at;
                addToken(at, end);
                if (end == at) {
                    return;
                }
                at = afterBlanks(end);
            }
        }

        private int afterBlanks(int from) {
            int at = from;
            while (at < size && (bytes[at] == ' ' || bytes[at] == '\n')) {
                at++;
            }
            return at;
        }

        private int byteAt(int i) {
            return i >= 0 && i < size ? bytes[i] : 0;
        }

        /** Where the token that begins here ends; here, if none begins. */
        private int tokenEnd(int at) {
            int first = byteAt(at);
            int second = byteAt(at + 1);
            if (isLetter(first)) {
                return afterName(at);
            }
            if (isDigit(first)) {
                int end = afterDigits(at);
                return end - at > 9 ? at : end;
            }
            switch (first) {
                case '\'':
                    boolean sign = second >= 32 && second <= 126 && second != '\'' && byteAt(at + 2) == '\'';
                    return sign ? at + 3 : at;
                case '-':
                    return second == '>' ? at + 2 : at;
                case ':':
                    return second == ':' ? at + 2 : at + 1;
                case '=':
                    return second == '>' ? at + 2 : at + 1;
                case '|': case ';': case '{': case '}': case '(': case ')':
                case '[': case ']': case ',': case '\\':
                    return at + 1;
                default:
                    return at;
            }
        }

        private static boolean isLetter(int c) {
            return c >= 'a' && c <= 'z' || c >= 'A' && c <= 'Z' || c == '_';
        }

        private static boolean isDigit(int c) {
            return c >= '0' && c <= '9';
        }

        private int afterName(int from) {
            int at = from;
            while (at < size && (isLetter(bytes[at]) || isDigit(bytes[at]))) {
                at++;
            }
            return at;
        }

        private int afterDigits(int from) {
            int at = from;
            while (at < size && isDigit(bytes[at])) {
                at++;
            }
            return at;
        }

        private void addToken(int start, int end) {
            if (count >= kinds.length) {
                return;
            }
            kinds[count] = end == start ? BAD : kindOf(start, end);
            starts[count] = start;
            ends[count] = end;
            count++;
            boolean named = kinds[count - 1] == LOW || kinds[count - 1] == HIGH;
            names[count - 1] = named ? nameOf(count - 1) : NONE;
        }

        private int kindOf(int start, int end) {
            int first = byteAt(start);
            if (first == '_') {
                return end - start == 1 ? BLANK : HOLE;
            }
            if (first >= 'a' && first <= 'z') {
                int word = placeIn(WORDS, start, end);
                return word == NONE ? LOW : DATA + word;
            }
            if (first >= 'A' && first <= 'Z') {
                return HIGH;
            }
            if (isDigit(first)) {
                return NUMBER;
            }
            if (first == '\'') {
                return SIGN;
            }
            if (end - start == 1) {
                return first;
            }
            return first == '-' ? ARROW : first == ':' ? OF_TYPE : IMPLIES;
        }

        private int nameOf(int i) {
            int place = placeIn(NAMES, starts[i], ends[i]);
            if (place != NONE) {
                return place;
            }
            for (int k = 0; k < i; k++) {
                if (names[k] >= OWN_NAMES && sameName(k, this, i)) {
                    return names[k];
                }
            }
            return OWN_NAMES + i;
        }

        /** The place of bytes in a list of words, each with a blank behind it. */
        private int placeIn(String list, int start, int end) {
            int place = 0;
            int from = 0;
            for (int i = 0; i < list.length(); i++) {
                if (list.charAt(i) == ' ') {
                    if (i - from == end - start && sameChars(list, from, start, end)) {
                        return place;
                    }
                    place++;
                    from = i + 1;
                }
            }
            return NONE;
        }

        private boolean sameChars(String list, int from, int start, int end) {
            for (int i = start; i < end; i++) {
                int there = from + i - start;
                if (there >= list.length() || i >= size || list.charAt(there) != bytes[i]) {
                    return false;
                }
            }
            return true;
        }

        int kindAt(int i) {
            return i >= 0 && i < count ? kinds[i] : END;
        }

        int nameAt(int i) {
            return i >= 0 && i < count ? names[i] : NONE;
        }

        /** Names of two texts can only be compared by their bytes. */
        boolean sameName(int i, Text other, int j) {
            if (i < 0 || i >= count || j < 0 || j >= other.count) {
                return false;
            }
            int length = ends[i] - starts[i];
            if (length != other.ends[j] - other.starts[j]) {
                return false;
            }
            for (int k = 0; k < length; k++) {
                if (bytes[starts[i] + k] != other.bytes[other.starts[j] + k]) {
                    return false;
                }
            }
            return true;
        }
    }

    /** A node of the tree of a text; its children are a chain. */
    private static final class Node {
        private int kind;
        private int first;
        /** Another token or number that the kind needs. */
        private int mark;
        private int end;
        private Node child;
        private Node tail;
        private Node next;
        private Low low;
        /** Of an equation or pat = exp: the first equation of its binding, which stands for the binding. */
        private Node lead;
        private int groupNumber;
        private int bindingNumber;

        void begin(int newKind, int newFirst) {
            kind = newKind;
            first = newFirst;
            mark = 0;
            end = newFirst;
            child = null;
            tail = null;
            next = null;
            low = null;
            lead = null;
            groupNumber = NONE;
            bindingNumber = NONE;
        }

        void add(Node node) {
            if (tail == null) {
                child = node;
            } else {
                tail.next = node;
            }
            tail = node;
        }

        int childCount() {
            int count = 0;
            for (Node node = child; node != null; node = node.next) {
                count++;
            }
            return count;
        }
    }

    /** A LOW that decls or a pattern declare, where it can be seen, and its scheme. */
    private static final class Low {
        private int place;
        private int name;
        /** The decls that declare it; null, if it is of a pattern. */
        private Node decls;
        /** Alike for the LOWs of patterns that must differ. */
        private int pattern;
        private int from;
        private int to;
        private Node lead;
        private Node given;
        private int scheme;
        private int owner;
        private int typeInPattern;

        void begin(int newPlace, int newName, Node newDecls, int newPattern) {
            place = newPlace;
            name = newName;
            decls = newDecls;
            pattern = newPattern;
            from = 0;
            to = 0;
            lead = null;
            given = null;
            scheme = NONE;
            owner = NOBODY;
            typeInPattern = NONE;
        }

        boolean isSeenAt(int token) {
            return from <= token && token < to;
        }
    }

    /** A text that was read: its tree, its LOWs, its holes. */
    private static final class Unit {
        private final Text text = new Text();
        private final Node[] nodes = new Node[MOST_NODES];
        private int nodeCount;
        private final Low[] lows = new Low[MOST_TOKENS];
        private int lowCount;
        /** The LOW that is declared at a token, and the one that a LOW of an exp means. */
        private final Low[] declaredAt = new Low[MOST_TOKENS];
        private final Low[] meanings = new Low[MOST_TOKENS];
        private final boolean[] isUse = new boolean[MOST_TOKENS];
        private final int[] holeTokens = new int[MOST_TOKENS];
        private int holeCount;
        private int dataCount;
        private int partCount;
        private Node root;

        void begin() {
            nodeCount = 0;
            lowCount = 0;
            holeCount = 0;
            dataCount = 0;
            partCount = 0;
            root = null;
            for (int i = 0; i < MOST_TOKENS; i++) {
                declaredAt[i] = null;
                meanings[i] = null;
                isUse[i] = false;
            }
        }

        Node newNode(int kind, int first) {
            if (nodeCount >= nodes.length) {
                return null;
            }
            if (nodes[nodeCount] == null) {
                nodes[nodeCount] = new Node();
            }
            Node node = nodes[nodeCount];
            nodeCount++;
            node.begin(kind, first);
            return node;
        }

        Low newLow(int token, Node decls, int pattern) {
            if (lowCount >= lows.length || token < 0 || token >= declaredAt.length) {
                return null;
            }
            if (lows[lowCount] == null) {
                lows[lowCount] = new Low();
            }
            Low low = lows[lowCount];
            lowCount++;
            low.begin(token, text.nameAt(token), decls, pattern);
            declaredAt[token] = low;
            return low;
        }

        /** The LOW of these decls with the name of a token, or null. */
        Low lowOf(Node decls, int token) {
            for (int i = 0; i < lowCount; i++) {
                if (lows[i].decls == decls && lows[i].name == text.nameAt(token)) {
                    return lows[i];
                }
            }
            return null;
        }

        void show(Low low, int from, int to) {
            low.from = from;
            low.to = to;
        }

        void showAll(Node decls, int from, int to) {
            for (int i = 0; i < lowCount; i++) {
                if (lows[i].decls == decls) {
                    show(lows[i], from, to);
                }
            }
        }

        /** The innermost LOW with this name that can be seen at a token, or null. */
        Low lowSeen(int name, int token) {
            Low inner = null;
            for (int i = 0; i < lowCount; i++) {
                Low low = lows[i];
                if (low.name == name && low.isSeenAt(token) && (inner == null || low.from > inner.from)) {
                    inner = low;
                }
            }
            return inner;
        }

        void findMeanings() {
            for (int i = 0; i < MOST_TOKENS && i < text.count; i++) {
                meanings[i] = isUse[i] ? lowSeen(text.nameAt(i), i) : null;
            }
        }

        Low meaningAt(int token) {
            return token >= 0 && token < meanings.length ? meanings[token] : null;
        }

        Low declaredAt(int token) {
            return token >= 0 && token < declaredAt.length ? declaredAt[token] : null;
        }

        int declaredCount() {
            int count = 0;
            for (int i = 0; i < lowCount; i++) {
                if (root != null && lows[i].decls == root) {
                    count++;
                }
            }
            return count;
        }

        /** The i-th LOW that the unit itself declares, or null. */
        Low declaredLow(int i) {
            int count = 0;
            for (int k = 0; k < lowCount; k++) {
                if (root != null && lows[k].decls == root) {
                    if (count == i) {
                        return lows[k];
                    }
                    count++;
                }
            }
            return null;
        }
    }

    /** Reads tokens; whatever is refused is refused at the token where it is. */
    private static final class Parser {
        private Unit unit;
        private Text text;
        private int at;
        /** The decls and the binding whose pattern is read; null while LOWs of a pattern are its own. */
        private Node patternDecls;
        private Node patternLead;
        private int pattern;

        boolean readUnit(Unit target, byte[] tape, int length) {
            begin(target, tape, length);
            try {
                target.root = node(DECLS, 0);
                declarations(target.root, true, 0);
                require(END);
            } catch (IllegalStateException refused) {
                return false;
            }
            target.showAll(target.root, 0, text.count);
            target.findMeanings();
            return true;
        }

        boolean readGiven(Unit target, byte[] tape, int length) {
            begin(target, tape, length);
            try {
                target.root = node(GIVEN, 0);
                given(target.root, 1);
                require(END);
            } catch (IllegalStateException refused) {
                return false;
            }
            return true;
        }

        private void begin(Unit target, byte[] tape, int length) {
            unit = target;
            text = target.text;
            text.take(tape, length);
            target.begin();
            at = 0;
            patternDecls = null;
            patternLead = null;
        }

        private void refuse() {
            throw new IllegalStateException("no text");
        }

        private int here() {
            return text.kindAt(at);
        }

        private void require(int kind) {
            if (here() != kind) {
                refuse();
            }
        }

        private void skip(int kind) {
            require(kind);
            at++;
        }

        private Node node(int kind, int first) {
            Node node = unit.newNode(kind, first);
            if (node == null) {
                refuse();
            }
            return node;
        }

        /** The node of the token here, which is read. */
        private Node leaf() {
            Node leaf = node(here(), at);
            at++;
            return leaf;
        }

        private boolean startsDeclaration(boolean top) {
            int kind = here();
            return kind == LOW || kind == HIGH || kind == '(' || kind == '[' || top && kind == DATA;
        }

        private static boolean startsPattern(int kind) {
            switch (kind) {
                case LOW: case BLANK: case NUMBER: case SIGN: case HIGH: case '(': case '[':
                    return true;
                default:
                    return false;
            }
        }

        private static boolean startsAtom(int kind) {
            return kind == HOLE || startsPattern(kind);
        }

        private void declarations(Node decls, boolean top, int level) {
            boolean more = startsDeclaration(top);
            for (int i = 0; i < MOST_TOKENS && more; i++) {
                if (here() == DATA) {
                    datum(decls);
                } else if (here() != LOW) {
                    patternBinding(decls, level);
                } else if (text.kindAt(at + 1) == OF_TYPE) {
                    Node given = node(GIVEN, at);
                    at += 2;
                    given(given, level + 1);
                    decls.add(given);
                } else {
                    equation(decls, level);
                }
                more = here() == ';';
                if (more) {
                    at++;
                    more = startsDeclaration(top);
                }
            }
        }

        private void datum(Node decls) {
            at++;
            require(HIGH);
            Node datum = node(DATUM, at);
            at++;
            for (int i = 0; i < MOST_TYPES && here() == LOW; i++) {
                datum.add(node(PARAMETER, at));
                datum.mark++;
                at++;
            }
            skip('=');
            datum.add(part());
            for (int i = 0; i < MOST_TOKENS && here() == '|'; i++) {
                at++;
                datum.add(part());
            }
            if (here() == DERIVING) {
                at++;
                skip('(');
                derivedClass(datum);
                for (int i = 0; i < MOST_TOKENS && here() == ','; i++) {
                    at++;
                    derivedClass(datum);
                }
                skip(')');
            }
            unit.dataCount++;
            decls.add(datum);
        }

        private void derivedClass(Node datum) {
            require(HIGH);
            datum.add(node(DERIVED, at));
            at++;
        }

        private Node part() {
            require(HIGH);
            Node part = node(PART, at);
            at++;
            unit.partCount++;
            if (here() == '{') {
                Node brace = braces(TYPE, 0);
                part.child = brace.child;
                part.tail = brace.tail;
                return part;
            }
            for (int i = 0; i < MOST_TOKENS && startsType(); i++) {
                part.add(simpleType(0));
            }
            return part;
        }

        /** What stands ahead of =>, if it does, is only known at the =>. */
        private boolean contextIsAhead() {
            if (here() == HIGH) {
                return text.kindAt(at + 1) == LOW && text.kindAt(at + 2) == IMPLIES;
            }
            if (here() != '(') {
                return false;
            }
            for (int i = at + 1; i < MOST_TOKENS; i += 3) {
                if (text.kindAt(i) != HIGH || text.kindAt(i + 1) != LOW) {
                    return false;
                }
                if (text.kindAt(i + 2) == ')') {
                    return text.kindAt(i + 3) == IMPLIES;
                }
                if (text.kindAt(i + 2) != ',') {
                    return false;
                }
            }
            return false;
        }

        private void given(Node given, int level) {
            if (level > MOST_LEVELS) {
                refuse();
            }
            if (contextIsAhead()) {
                for (int i = 0; i < MOST_TOKENS && here() != IMPLIES; i++) {
                    if (here() == HIGH) {
                        Node context = leaf();
                        context.kind = CONTEXT;
                        context.mark = at;
                        given.add(context);
                    }
                    at++;
                }
                skip(IMPLIES);
            }
            given.add(parse(TYPE, level + 1));
        }

        private void equation(Node decls, int level) {
            Node equation = node(EQUATION, at);
            Node ahead = decls.tail;
            equation.low = declare(decls, equation);
            at++;
            pattern = unit.lowCount;
            int firstLow = unit.lowCount;
            for (int i = 0; i < MOST_TOKENS && startsPattern(here()); i++) {
                equation.add(simplePattern(level));
                equation.mark++;
            }
            skip('=');
            boolean goesOn = ahead != null && ahead.kind == EQUATION && ahead.low == equation.low
                && ahead.mark == equation.mark && equation.mark > 0;
            equation.lead = goesOn ? ahead.lead : equation;
            decls.add(equation);
            body(equation, firstLow, level);
            equation.lead.end = at;
        }

        private void patternBinding(Node decls, int level) {
            Node binding = node(PATTERNED, at);
            binding.mark = at;
            binding.lead = binding;
            patternDecls = decls;
            patternLead = binding;
            Node left = parse(PATTERN, level + 1);
            patternDecls = null;
            patternLead = null;
            binding.add(left);
            binding.first = left.first;
            skip('=');
            binding.add(parse(EXPRESSION, level + 1));
            binding.end = at;
            decls.add(binding);
        }

        /** The LOW here is declared by decls: the one that is there already, or a new one. */
        private Low declare(Node decls, Node lead) {
            Low low = unit.lowOf(decls, at);
            if (low == null) {
                low = unit.newLow(at, decls, NONE);
                if (low == null) {
                    refuse();
                }
                low.lead = lead;
            } else if (at < MOST_TOKENS) {
                unit.declaredAt[at] = low;
            }
            return low;
        }

        /** An exp in which the LOWs of the patterns ahead of it are seen. */
        private void body(Node parent, int firstLow, int level) {
            int behindLow = unit.lowCount;
            int from = at;
            parent.add(parse(EXPRESSION, level + 1));
            for (int i = firstLow; i < behindLow; i++) {
                unit.show(unit.lows[i], from, at);
            }
        }

        private Node parse(int sort, int level) {
            if (level > MOST_LEVELS) {
                refuse();
            }
            if (sort == TYPE) {
                return arrows(level);
            }
            if (sort == PATTERN) {
                return wholePattern(level);
            }
            switch (here()) {
                case '\\':
                    return lambda(level);
                case LET:
                    return letIn(level);
                case IF:
                    return choice(level);
                case CASE:
                    return caseOf(level);
                default:
                    return chain(level);
            }
        }

        private boolean startsType() {
            return here() == HIGH || here() == LOW || here() == '(' || here() == '[';
        }

        private Node arrows(int level) {
            boolean high = here() == HIGH;
            Node left = simpleType(level);
            if (high) {
                for (int i = 0; i < MOST_TOKENS && startsType(); i++) {
                    left.add(simpleType(level));
                }
            }
            if (here() != ARROW) {
                return left;
            }
            Node arrow = leaf();
            arrow.first = left.first;
            arrow.add(left);
            arrow.add(parse(TYPE, level + 1));
            return arrow;
        }

        private Node simpleType(int level) {
            if (here() == HIGH || here() == LOW) {
                return leaf();
            }
            if (here() != '(' && here() != '[') {
                refuse();
            }
            return bracket(TYPE, level);
        }

        private Node wholePattern(int level) {
            boolean high = here() == HIGH;
            Node left = simplePattern(level);
            if (high && left.kind == HIGH) {
                for (int i = 0; i < MOST_TOKENS && startsPattern(here()); i++) {
                    left.add(simplePattern(level));
                }
            }
            if (here() != ':') {
                return left;
            }
            Node chain = node(CHAIN, left.first);
            chain.add(left);
            chain.add(node(COLON, at));
            at++;
            chain.add(parse(PATTERN, level + 1));
            return chain;
        }

        private Node simplePattern(int level) {
            switch (here()) {
                case BLANK: case NUMBER: case SIGN:
                    return leaf();
                case LOW:
                    return patternLow();
                case HIGH:
                    Node high = leaf();
                    return here() == '{' ? recordOf(high, braces(PATTERN, level)) : high;
                case '(': case '[':
                    return bracket(PATTERN, level);
                default:
                    refuse();
                    return null;
            }
        }

        private Node patternLow() {
            Low low = patternDecls == null ? unit.newLow(at, null, pattern) : declare(patternDecls, patternLead);
            Node leaf = leaf();
            leaf.low = low;
            return leaf;
        }

        private Node recordOf(Node high, Node brace) {
            Node rec = node(RECORD, high.first);
            rec.add(brace);
            return rec;
        }

        /** Things in ( ) or [ ]; one thing in ( ) is that thing. */
        private Node bracket(int sort, int level) {
            boolean round = here() == '(';
            int close = round ? ')' : ']';
            Node group = node(round ? TUPLE : LIST, at);
            at++;
            if (here() == close && (round || sort != TYPE)) {
                at++;
                return group;
            }
            int most = round ? MOST_TYPES : sort == TYPE ? 1 : MOST_TOKENS;
            group.add(parse(sort, level + 1));
            int count = 1;
            while (count < most && here() == ',') {
                at++;
                group.add(parse(sort, level + 1));
                count++;
            }
            skip(close);
            return round && count == 1 ? group.child : group;
        }

        private Node braces(int sort, int level) {
            Node brace = node(BRACE, at);
            skip('{');
            boolean more = true;
            for (int i = 0; i < MOST_TOKENS && more; i++) {
                require(LOW);
                Node field = leaf();
                field.kind = FIELD;
                skip(sort == TYPE ? OF_TYPE : '=');
                field.add(parse(sort, level + 1));
                brace.add(field);
                more = here() == ',';
                if (more) {
                    at++;
                }
            }
            skip('}');
            return brace;
        }

        private Node lambda(int level) {
            Node lambda = node(LAMBDA, at);
            at++;
            pattern = unit.lowCount;
            int firstLow = unit.lowCount;
            lambda.add(simplePattern(level));
            for (int i = 0; i < MOST_TOKENS && startsPattern(here()); i++) {
                lambda.add(simplePattern(level));
            }
            skip(ARROW);
            body(lambda, firstLow, level);
            return lambda;
        }

        private Node letIn(int level) {
            Node let = leaf();
            Node decls = node(DECLS, at);
            skip('{');
            declarations(decls, false, level);
            skip('}');
            skip(IN);
            let.add(decls);
            let.add(parse(EXPRESSION, level + 1));
            unit.showAll(decls, decls.first, at);
            return let;
        }

        private Node choice(int level) {
            Node choice = leaf();
            choice.add(parse(EXPRESSION, level + 1));
            skip(THEN);
            choice.add(parse(EXPRESSION, level + 1));
            skip(ELSE);
            choice.add(parse(EXPRESSION, level + 1));
            return choice;
        }

        private Node caseOf(int level) {
            Node whole = leaf();
            whole.add(parse(EXPRESSION, level + 1));
            skip(OF);
            skip('{');
            boolean more = true;
            for (int i = 0; i < MOST_TOKENS && more; i++) {
                Node branch = node(BRANCH, at);
                pattern = unit.lowCount;
                int firstLow = unit.lowCount;
                branch.add(parse(PATTERN, level + 1));
                skip(ARROW);
                body(branch, firstLow, level);
                whole.add(branch);
                more = here() == ';';
                if (more) {
                    at++;
                    more = here() != '}';
                }
            }
            skip('}');
            return whole;
        }

        private Node chain(int level) {
            Node whole = row(level);
            if (here() == ':') {
                Node chain = node(CHAIN, whole.first);
                chain.add(whole);
                for (int i = 0; i < MOST_TOKENS && here() == ':'; i++) {
                    chain.add(node(COLON, at));
                    at++;
                    chain.add(row(level));
                }
                whole = chain;
            }
            if (here() == OF_TYPE) {
                Node with = node(TYPED, whole.first);
                with.mark = at;
                at++;
                with.add(whole);
                with.add(parse(TYPE, level + 1));
                whole = with;
            }
            return whole;
        }

        private Node row(int level) {
            Node first = braced(level);
            if (!startsAtom(here())) {
                return first;
            }
            Node row = node(ROW, first.first);
            row.add(first);
            for (int i = 0; i < MOST_TOKENS && startsAtom(here()); i++) {
                row.add(braced(level));
            }
            return row;
        }

        private Node braced(int level) {
            Node whole = here() == '(' || here() == '[' ? bracket(EXPRESSION, level) : atom();
            for (int i = 0; i < MOST_TOKENS && here() == '{'; i++) {
                Node brace = braces(EXPRESSION, level);
                if (whole.kind == HIGH) {
                    whole = recordOf(whole, brace);
                } else if (whole.kind == UPDATE) {
                    whole.add(brace);
                } else {
                    Node update = node(UPDATE, whole.first);
                    update.add(whole);
                    update.add(brace);
                    whole = update;
                }
            }
            return whole;
        }

        private Node atom() {
            if (!startsAtom(here())) {
                refuse();
            }
            Node leaf = leaf();
            if (leaf.kind == LOW && leaf.first < MOST_TOKENS) {
                unit.isUse[leaf.first] = true;
            }
            if ((leaf.kind == HOLE || leaf.kind == BLANK) && unit.holeCount < MOST_TOKENS) {
                leaf.mark = unit.holeCount;
                unit.holeTokens[unit.holeCount] = leaf.first;
                unit.holeCount++;
            }
            return leaf;
        }
    }

    /** The store of types. A type is a number; a variable that became a type is that type. */
    private static final class Types {
        private int[] kinds = new int[1024];
        private int[] arities = new int[1024];
        /** What a variable became, or where the types in another type begin in kids. */
        private int[] links = new int[1024];
        /** What is wanted of a FREE variable, or given for a FIXED type. */
        private int[] classes = new int[1024];
        /** In whose scheme a variable is FREE. */
        private int[] owners = new int[1024];
        private int[] around = new int[1024];
        private int[] seen = new int[1024];
        private int[] kids = new int[1024];
        private int count;
        private int kidCount;
        /** Types that wait for something; every user leaves what was there before. */
        private int[] stack = new int[256];
        private int top;
        private int stamp;
        private int aroundStamp;
        private final int[] known = new int[KNOWN];
        /** The variables of the latest copy, as they come first, and what stands for them. */
        private final int[] originals = new int[MOST_PARTS + 4];
        private final int[] copies = new int[MOST_PARTS + 4];
        private int copiedCount;

        void begin() {
            count = 0;
            kidCount = 0;
            top = 0;
            compound(INT, 0);
            compound(CHAR, 0);
            compound(BOOL, 0);
            known[FALSE_NAME] = BOOL_TYPE;
            known[TRUE_NAME] = BOOL_TYPE;
            known[2] = ofTwo(EQ, true);
            known[3] = ofTwo(ORD, true);
            known[4] = ofTwo(NUM, false);
            known[5] = known[4];
            int any = variable();
            owners[any] = HEADS;
            known[6] = function(list(CHAR_TYPE), any);
        }

        private int ofTwo(int wanted, boolean toBool) {
            int any = variable();
            owners[any] = HEADS;
            classes[any] = wanted;
            return function(any, function(any, toBool ? BOOL_TYPE : any));
        }

        /** All later types are forgotten. */
        void backTo(int oldCount, int oldKidCount) {
            count = oldCount;
            kidCount = oldKidCount;
        }

        void push(int value) {
            if (top >= stack.length) {
                stack = Arrays.copyOf(stack, 2 * stack.length);
            }
            stack[top] = value;
            top++;
        }

        int pop() {
            if (top <= 0) {
                return INT_TYPE;
            }
            top--;
            return stack[top];
        }

        int add(int kind, int arity, int link) {
            if (count >= kinds.length) {
                int more = 2 * kinds.length;
                kinds = Arrays.copyOf(kinds, more);
                arities = Arrays.copyOf(arities, more);
                links = Arrays.copyOf(links, more);
                classes = Arrays.copyOf(classes, more);
                owners = Arrays.copyOf(owners, more);
                around = Arrays.copyOf(around, more);
                seen = Arrays.copyOf(seen, more);
            }
            kinds[count] = kind;
            arities[count] = arity;
            links[count] = link;
            classes[count] = 0;
            owners[count] = NOBODY;
            count++;
            return count - 1;
        }

        int variable() {
            return add(VARIABLE, 0, NONE);
        }

        /** A type of a kind with the latest types that were pushed, which are taken away. */
        int compound(int kind, int arity) {
            int from = Math.max(0, top - arity);
            if (kidCount + arity > kids.length) {
                kids = Arrays.copyOf(kids, 2 * kids.length + arity);
            }
            int link = kidCount;
            int used = top - from;
            for (int i = 0; i < used; i++) {
                kids[kidCount] = stack[from + i];
                kidCount++;
            }
            top = from;
            return add(kind, used, link);
        }

        int function(int from, int to) {
            push(from);
            push(to);
            return compound(FUNCTION, 2);
        }

        int list(int of) {
            push(of);
            return compound(LIST_OF, 1);
        }

        int find(int start) {
            int found = start >= 0 && start < count ? start : INT_TYPE;
            for (int i = 0; i < count && kinds[found] == VARIABLE && links[found] != NONE; i++) {
                found = links[found];
            }
            return found;
        }

        int kindOf(int any) {
            return kinds[find(any)];
        }

        /** The i-th type in a type. */
        int kid(int any, int i) {
            int whole = find(any);
            return i >= 0 && i < arities[whole] ? kids[links[whole] + i] : INT_TYPE;
        }

        private void pushKids(int whole) {
            for (int i = arities[whole] - 1; i >= 0; i--) {
                push(kids[links[whole] + i]);
            }
        }

        void become(int variable, int other) {
            links[variable] = other;
        }

        /** How many PARTS a type has, though not more than one too many are counted. */
        int parts(int any) {
            int base = top;
            int found = 0;
            push(any);
            while (top > base && found <= MOST_PARTS) {
                int whole = find(pop());
                for (int k = 0; k < arities[whole]; k++) {
                    push(kids[links[whole] + k]);
                }
                found++;
            }
            top = base;
            return found;
        }

        /**
         * Makes two types alike: 0, or the fault; only variables from movable on may become others. A
         * limit on PARTS holds for every pair within the two, as it is when it is come to.
         */
        int join(int left, int right, int movable, boolean limited) {
            int base = top;
            int wrong = 0;
            push(left);
            push(right);
            for (int i = 0; i < FAR && top > base + 1 && wrong == 0; i++) {
                int b = find(pop());
                int a = find(pop());
                if (limited && (parts(a) > MOST_PARTS || parts(b) > MOST_PARTS)) {
                    wrong = TOO_LARGE;
                    break;
                }
                if (a == b) {
                    continue;
                }
                boolean turned = kinds[a] != VARIABLE || a < movable;
                int variable = turned ? b : a;
                int other = turned ? a : b;
                if (kinds[variable] == VARIABLE && variable >= movable) {
                    wrong = isWithin(variable, other) ? ENDLESS : 0;
                    links[variable] = wrong == 0 ? other : NONE;
                } else if (kinds[a] != kinds[b] || arities[a] != arities[b] || kinds[a] <= FIXED) {
                    wrong = NOT_ALIKE;
                } else {
                    pushPairs(a, b);
                }
            }
            top = base;
            return wrong;
        }

        private void pushPairs(int a, int b) {
            for (int i = arities[a] - 1; i >= 0; i--) {
                push(kids[links[a] + i]);
                push(kids[links[b] + i]);
            }
        }

        private boolean isWithin(int variable, int other) {
            int base = top;
            stamp++;
            push(other);
            for (int i = 0; i < FAR && top > base; i++) {
                int found = find(pop());
                if (seen[found] != stamp) {
                    seen[found] = stamp;
                    for (int k = 0; k < arities[found]; k++) {
                        push(kids[links[found] + k]);
                    }
                }
            }
            top = base;
            return seen[variable] == stamp;
        }

        /** Marks a type and all types in it, but no variable that is FREE in some scheme. */
        private void mark(int any, int[] marks, int with) {
            int base = top;
            push(any);
            for (int i = 0; i < FAR && top > base; i++) {
                int found = find(pop());
                boolean free = kinds[found] == VARIABLE && owners[found] != NOBODY;
                if (marks[found] != with && !free) {
                    marks[found] = with;
                    for (int k = 0; k < arities[found]; k++) {
                        push(kids[links[found] + k]);
                    }
                }
            }
            top = base;
        }

        void beginAround() {
            stamp++;
            aroundStamp = stamp;
        }

        void markAround(int any) {
            mark(any, around, aroundStamp);
        }

        boolean isAround(int found) {
            return around[found] == aroundStamp;
        }

        void beginSeen() {
            stamp++;
        }

        void markSeen(int any) {
            mark(any, seen, stamp);
        }

        boolean isSeen(int found) {
            return seen[found] == stamp;
        }

        /** The variables of a type that are not around become FREE. */
        void free(int any, int owner) {
            int base = top;
            int budget = MOST_PARTS;
            push(any);
            while (top > base && budget >= 0) {
                int found = find(pop());
                budget--;
                if (kinds[found] == VARIABLE && owners[found] == NOBODY && !isAround(found)) {
                    owners[found] = owner;
                }
                pushKids(found);
            }
            top = base;
        }

        /**
         * A scheme's type with new variables, or FIXED types, for its FREE ones. Whoever wants a new
         * copy begins with no variable copied.
         */
        private int copy(int any, int owner, boolean fixing, int depth) {
            int found = find(any);
            if (owner == NOBODY || depth > MOST_PARTS) {
                return found;
            }
            if (kinds[found] == VARIABLE) {
                return owners[found] == owner ? standIn(found, fixing) : found;
            }
            int arity = arities[found];
            boolean changed = false;
            for (int i = 0; i < arity; i++) {
                int kid = find(kids[links[found] + i]);
                int copied = copy(kid, owner, fixing, depth + 1);
                changed = changed || copied != kid;
                push(copied);
            }
            if (!changed) {
                top -= arity;
                return found;
            }
            return compound(kinds[found], arity);
        }

        private int standIn(int variable, boolean fixing) {
            for (int i = 0; i < copiedCount; i++) {
                if (originals[i] == variable) {
                    return copies[i];
                }
            }
            int other = add(fixing ? FIXED : VARIABLE, 0, NONE);
            classes[other] = fixing ? classes[variable] : 0;
            if (copiedCount < originals.length) {
                originals[copiedCount] = variable;
                copies[copiedCount] = other;
                copiedCount++;
            }
            return other;
        }
    }

    /** What the unit's data declare, and the types that texts tell. */
    private static final class Heads {
        private final Types types;
        private Unit unit;
        private final Node[] data = new Node[MOST_TOKENS];
        private final int[] derived = new int[MOST_TOKENS];
        private final int[] wholes = new int[MOST_TOKENS];
        private int dataCount;
        private final Node[] parts = new Node[MOST_TOKENS];
        private final int[] partData = new int[MOST_TOKENS];
        private final int[] partSchemes = new int[MOST_TOKENS];
        private int partCount;
        private final Node[] fields = new Node[MOST_TOKENS];
        private final int[] fieldData = new int[MOST_TOKENS];
        private final int[] fieldTypes = new int[MOST_TOKENS];
        private final int[] fieldSchemes = new int[MOST_TOKENS];
        private int fieldCount;
        /** The variables of the type that is built now. */
        private final int[] variableNames = new int[MOST_TOKENS];
        private final int[] variableTypes = new int[MOST_TOKENS];
        private int variableCount;

        Heads(Types store) {
            types = store;
        }

        private int nameOf(Node node) {
            return unit.text.nameAt(node.first);
        }

        /** Collects all heads: the token of what is there already, or NONE. */
        int collect(Unit source) {
            unit = source;
            dataCount = 0;
            partCount = 0;
            fieldCount = 0;
            int wrong = NONE;
            Node first = source.root == null ? null : source.root.child;
            for (Node decl = first; decl != null && wrong == NONE; decl = decl.next) {
                if (decl.kind == DATUM) {
                    wrong = collectDatum(decl);
                }
            }
            return wrong;
        }

        private int collectDatum(Node datum) {
            if (kindOfHead(unit.text, datum.first) != NONE || dataCount >= data.length) {
                return datum.first;
            }
            data[dataCount] = datum;
            dataCount++;
            int wrong = NONE;
            for (Node node = datum.child; node != null && wrong == NONE; node = node.next) {
                if (node.kind == PARAMETER && isAhead(datum.child, node)) {
                    wrong = node.first;
                } else if (node.kind == PART) {
                    wrong = collectPart(node);
                }
            }
            return wrong;
        }

        /** Whether a node before this one in its chain has its kind and its name. */
        private boolean isAhead(Node chain, Node node) {
            for (Node other = chain; other != null && other != node; other = other.next) {
                boolean same = unit.text.nameAt(other.first) == unit.text.nameAt(node.first);
                if (other.kind == node.kind && same) {
                    return true;
                }
            }
            return false;
        }

        private int collectPart(Node part) {
            int name = nameOf(part);
            if (name == FALSE_NAME || name == TRUE_NAME || partOf(name) != NONE || partCount >= parts.length) {
                return part.first;
            }
            parts[partCount] = part;
            partData[partCount] = dataCount - 1;
            partCount++;
            int wrong = NONE;
            for (Node field = part.child; field != null && wrong == NONE; field = field.next) {
                if (field.kind == FIELD && !collectField(part, field)) {
                    wrong = field.first;
                }
            }
            return wrong;
        }

        private boolean collectField(Node part, Node field) {
            int name = nameOf(field);
            if (name < KNOWN || isAhead(part.child, field)) {
                return false;
            }
            int there = fieldOf(name);
            if (there != NONE) {
                return fieldData[there] == dataCount - 1 && isSameType(fields[there].child, field.child);
            }
            if (fieldCount >= fields.length) {
                return false;
            }
            fields[fieldCount] = field;
            fieldData[fieldCount] = dataCount - 1;
            fieldCount++;
            return true;
        }

        private boolean isSameType(Node a, Node b) {
            if (a == null || b == null) {
                return a == b;
            }
            boolean named = a.kind == HIGH || a.kind == LOW;
            if (a.kind != b.kind || named && unit.text.nameAt(a.first) != unit.text.nameAt(b.first)) {
                return false;
            }
            Node other = b.child;
            for (Node node = a.child; node != null; node = node.next) {
                if (other == null || !isSameType(node, other)) {
                    return false;
                }
                other = other.next;
            }
            return other == null;
        }

        /** The kind of the types that a HIGH of a type tells, or NONE. */
        private int kindOfHead(Text text, int token) {
            int name = text.nameAt(token);
            if (name >= INT_NAME && name <= BOOL_NAME) {
                return INT + name - INT_NAME;
            }
            for (int i = 0; i < dataCount; i++) {
                if (text.sameName(token, unit.text, data[i].first)) {
                    return OF_DATA + i;
                }
            }
            return NONE;
        }

        int partOf(int name) {
            for (int i = 0; i < partCount; i++) {
                if (unit.text.nameAt(parts[i].first) == name) {
                    return i;
                }
            }
            return NONE;
        }

        int fieldOf(int name) {
            for (int i = 0; i < fieldCount; i++) {
                if (unit.text.nameAt(fields[i].first) == name) {
                    return i;
                }
            }
            return NONE;
        }

        /** At which place a part has a field, or NONE. */
        int placeInPart(int part, int name) {
            int place = 0;
            Node first = part >= 0 && part < partCount ? parts[part].child : null;
            for (Node node = first; node != null; node = node.next) {
                if (node.kind == FIELD && nameOf(node) == name) {
                    return place;
                }
                place++;
            }
            return NONE;
        }

        /** Whether some part has all the fields of a brace. */
        boolean somePartHas(Node brace) {
            for (int i = 0; i < partCount; i++) {
                boolean all = true;
                for (Node field = brace.child; field != null && all; field = field.next) {
                    all = placeInPart(i, nameOf(field)) != NONE;
                }
                if (all) {
                    return true;
                }
            }
            return false;
        }

        /** Looks at the types and classes of all data: the first wrong token, or NONE. */
        int wrongInData() {
            int wrong = NONE;
            for (int i = 0; i < dataCount && wrong == NONE; i++) {
                derived[i] = 0;
                for (Node node = data[i].child; node != null && wrong == NONE; node = node.next) {
                    if (node.kind == PART) {
                        wrong = wrongInPart(node, data[i]);
                    } else if (node.kind == DERIVED) {
                        wrong = wrongInDerived(node, i);
                    }
                }
            }
            return wrong;
        }

        private int wrongInPart(Node part, Node datum) {
            int wrong = NONE;
            for (Node node = part.child; node != null && wrong == NONE; node = node.next) {
                Node told = node.kind == FIELD ? node.child : node;
                wrong = wrongInType(unit.text, told, datum, false);
            }
            return wrong;
        }

        private int wrongInDerived(Node node, int number) {
            int bit = classOf(nameOf(node));
            boolean right = (bit == EQ || bit == ORD) && (derived[number] & bit) == 0;
            if (!right || bit == ORD && !derivesEq(data[number])) {
                return node.first;
            }
            derived[number] |= bit;
            return NONE;
        }

        private boolean derivesEq(Node datum) {
            for (Node node = datum.child; node != null; node = node.next) {
                if (node.kind == DERIVED && nameOf(node) == EQ_NAME) {
                    return true;
                }
            }
            return false;
        }

        /** The bit of a class with this name, or 0. */
        private static int classOf(int name) {
            return name >= EQ_NAME && name <= NUM_NAME ? 1 << (name - EQ_NAME) : 0;
        }

        /** The first wrong token of a type; its LOWs are the datum's, or any, or none. */
        int wrongInType(Text text, Node told, Node datum, boolean anyLow) {
            if (told == null) {
                return NONE;
            }
            if (told.kind == LOW && !anyLow && !isParameter(datum, told)) {
                return told.first;
            }
            if (told.kind == HIGH) {
                int kind = kindOfHead(text, told.first);
                int arity = kind == NONE ? NONE : kind < OF_DATA ? 0 : data[kind - OF_DATA].mark;
                if (told.childCount() != arity) {
                    return told.first;
                }
            }
            int wrong = NONE;
            for (Node node = told.child; node != null && wrong == NONE; node = node.next) {
                wrong = wrongInType(text, node, datum, anyLow);
            }
            return wrong;
        }

        private boolean isParameter(Node datum, Node low) {
            Node first = datum == null ? null : datum.child;
            for (Node node = first; node != null; node = node.next) {
                boolean same = unit.text.nameAt(node.first) == unit.text.nameAt(low.first);
                if (node.kind == PARAMETER && same) {
                    return true;
                }
            }
            return false;
        }

        /** The first wrong token of a given type, or NONE. */
        int wrongInGiven(Text text, Node given) {
            Node told = given.tail;
            for (Node node = given.child; node != null && node.kind == CONTEXT; node = node.next) {
                if (classOf(text.nameAt(node.first)) == 0) {
                    return node.first;
                }
                if (!hasLow(text, told, text.nameAt(node.mark))) {
                    return node.mark;
                }
            }
            return wrongInType(text, told, null, true);
        }

        private boolean hasLow(Text text, Node told, int name) {
            if (told == null) {
                return false;
            }
            boolean has = told.kind == LOW && text.nameAt(told.first) == name;
            for (Node node = told.child; node != null && !has; node = node.next) {
                has = hasLow(text, node, name);
            }
            return has;
        }

        /** Builds the schemes of all parts and fields: the token of a part that is too large, or NONE. */
        int build() {
            int wrong = NONE;
            int latest = NONE;
            for (int i = 0; i < partCount && wrong == NONE; i++) {
                if (partData[i] != latest) {
                    latest = partData[i];
                    buildWhole(latest);
                }
                buildPart(i, wholes[latest]);
                wrong = types.parts(partSchemes[i]) > MOST_PARTS ? parts[i].first : NONE;
            }
            return wrong;
        }

        private void buildWhole(int number) {
            variableCount = 0;
            int arity = 0;
            for (Node node = data[number].child; node != null; node = node.next) {
                if (node.kind == PARAMETER) {
                    types.push(variableOf(nameOf(node), HEADS, false));
                    arity++;
                }
            }
            wholes[number] = types.compound(OF_DATA + number, arity);
        }

        private void buildPart(int part, int whole) {
            int count = 0;
            for (Node node = parts[part].child; node != null; node = node.next) {
                Node told = node.kind == FIELD ? node.child : node;
                int built = buildType(unit.text, told, HEADS, false);
                int field = node.kind == FIELD ? fieldOf(nameOf(node)) : NONE;
                if (field != NONE && fields[field] == node) {
                    fieldTypes[field] = built;
                    fieldSchemes[field] = types.function(whole, built);
                }
                types.push(built);
                count++;
            }
            int scheme = whole;
            for (int i = 0; i < count; i++) {
                scheme = types.function(types.pop(), scheme);
            }
            partSchemes[part] = scheme;
        }

        private int variableOf(int name, int owner, boolean fixing) {
            for (int i = 0; i < variableCount; i++) {
                if (variableNames[i] == name) {
                    return variableTypes[i];
                }
            }
            int made = types.add(fixing ? FIXED : VARIABLE, 0, NONE);
            types.owners[made] = owner;
            if (variableCount < variableNames.length) {
                variableNames[variableCount] = name;
                variableTypes[variableCount] = made;
                variableCount++;
            }
            return made;
        }

        /** A type without variables, or with those that are known by now; new ones are the owner's. */
        private int buildType(Text text, Node told, int owner, boolean fixing) {
            if (told == null) {
                return INT_TYPE;
            }
            if (told.kind == LOW) {
                return variableOf(text.nameAt(told.first), owner, fixing);
            }
            int count = 0;
            for (Node node = told.child; node != null; node = node.next) {
                types.push(buildType(text, node, owner, fixing));
                count++;
            }
            switch (told.kind) {
                case ARROW:
                    return types.compound(FUNCTION, count);
                case LIST:
                    return types.compound(LIST_OF, count);
                case TUPLE:
                    return types.compound(TUPLE_OF, count);
                default:
                    int kind = kindOfHead(text, told.first);
                    return types.compound(kind == NONE ? INT : kind, count);
            }
        }

        int buildTold(Node told) {
            variableCount = 0;
            return buildType(unit.text, told, NOBODY, false);
        }

        /** A given type; its variables are the owner's, or FIXED. */
        int buildGiven(Text text, Node given, int owner, boolean fixing) {
            variableCount = 0;
            int built = buildType(text, given.tail, owner, fixing);
            for (Node node = given.child; node != null && node.kind == CONTEXT; node = node.next) {
                int variable = variableOf(text.nameAt(node.mark), owner, fixing);
                int wanted = types.classes[variable] | classOf(text.nameAt(node.first));
                types.classes[variable] = (wanted & ORD) != 0 ? wanted & ~EQ : wanted;
            }
            return built;
        }
    }

    /** What is WANTED: a class of a type at a token, in order. */
    private static final class Wants {
        private final Types types;
        private final Heads heads;
        private int[] ofTypes = new int[256];
        /** Class and token of each, as one number. */
        private int[] marks = new int[256];
        private int count;
        /** What stays of variables when all is reduced. */
        private int[] stayTypes = new int[256];
        private int[] stayMarks = new int[256];
        private int stayCount;
        /** Of each variable: when it was reduced to, the classes that stay, the first token. */
        private int[] stamps = new int[1024];
        private int[] masks = new int[1024];
        private int[] firsts = new int[1024];
        private int stamp;
        private int wrongToken;

        Wants(Types store, Heads all) {
            types = store;
            heads = all;
        }

        void add(int bit, int of, int token) {
            if (count >= marks.length) {
                ofTypes = Arrays.copyOf(ofTypes, 2 * ofTypes.length);
                marks = Arrays.copyOf(marks, 2 * marks.length);
            }
            ofTypes[count] = of;
            marks[count] = bit * 1024 + token;
            count++;
        }

        /** All classes of a set, in the order in which they are WRITTEN. */
        void addAll(int set, int of, int token) {
            for (int bit = EQ; bit <= NUM; bit *= 2) {
                if ((set & bit) != 0) {
                    add(bit, of, token);
                }
            }
        }

        /** Takes away what was wanted since; what stays is kept apart: 0, or the fault. */
        int reduce(int since, boolean limited) {
            int wrong = 0;
            stamp++;
            stayCount = 0;
            for (int i = since; i < count && wrong == 0; i++) {
                wrongToken = marks[i] % 1024;
                if (limited && types.parts(ofTypes[i]) > MOST_PARTS) {
                    wrong = TOO_LARGE;
                } else if (!split(marks[i] / 1024, ofTypes[i])) {
                    wrong = NOT_GIVEN;
                }
            }
            count = Math.min(count, since);
            dropWeak();
            return wrong;
        }

        private boolean split(int bit, int of) {
            int base = types.top;
            boolean given = true;
            types.push(of);
            for (int i = 0; i < FAR && types.top > base && given; i++) {
                int found = types.find(types.pop());
                if (types.kinds[found] == VARIABLE) {
                    stay(bit, found);
                } else {
                    given = isIn(bit, found);
                    types.pushKids(found);
                }
            }
            types.top = base;
            return given;
        }

        /** Whether the kind of a type is in a class; whether all its types are, is still open. */
        private boolean isIn(int bit, int found) {
            int kind = types.kinds[found];
            int set = types.classes[found];
            switch (kind) {
                case FIXED:
                    return (set & bit) != 0 || bit == EQ && (set & ORD) != 0;
                case FUNCTION:
                    return false;
                case INT:
                    return true;
                case CHAR: case BOOL: case LIST_OF: case TUPLE_OF:
                    return bit != NUM;
                default:
                    int number = kind - OF_DATA;
                    return number >= 0 && number < heads.dataCount && (heads.derived[number] & bit) != 0;
            }
        }

        private void stay(int bit, int variable) {
            if (variable >= stamps.length) {
                int more = 2 * variable;
                stamps = Arrays.copyOf(stamps, more);
                masks = Arrays.copyOf(masks, more);
                firsts = Arrays.copyOf(firsts, more);
            }
            if (stamps[variable] != stamp) {
                stamps[variable] = stamp;
                masks[variable] = 0;
                firsts[variable] = wrongToken;
            }
            if ((masks[variable] & bit) != 0) {
                return;
            }
            masks[variable] |= bit;
            if (stayCount >= stayMarks.length) {
                stayTypes = Arrays.copyOf(stayTypes, 2 * stayTypes.length);
                stayMarks = Arrays.copyOf(stayMarks, 2 * stayMarks.length);
            }
            stayTypes[stayCount] = variable;
            stayMarks[stayCount] = bit * 1024 + wrongToken;
            stayCount++;
        }

        /** Eq gives way to Ord of the same variable. */
        private void dropWeak() {
            int kept = 0;
            for (int i = 0; i < stayCount; i++) {
                boolean weak = stayMarks[i] / 1024 == EQ && (masks[stayTypes[i]] & ORD) != 0;
                if (!weak) {
                    stayTypes[kept] = stayTypes[i];
                    stayMarks[kept] = stayMarks[i];
                    kept++;
                }
            }
            stayCount = kept;
        }

        int stayClass(int i) {
            return stayMarks[i] / 1024;
        }

        void goOutward(int i) {
            add(stayMarks[i] / 1024, stayTypes[i], stayMarks[i] % 1024);
        }

        boolean isNumeric(int variable) {
            return variable < masks.length && (masks[variable] & NUM) != 0;
        }

        int firstToken(int variable) {
            return variable < firsts.length ? firsts[variable] : 0;
        }
    }

    /** Finds the types of a unit. */
    private static final class Typer {
        private final Types types;
        private final Heads heads;
        private final Wants wants;
        private final int[] holeTypes = new int[MOST_TOKENS];
        /** The bindings that are put into groups, and whom each of them uses, as bits. */
        private final Node[] members = new Node[MOST_BINDINGS];
        private int memberCount;
        private final long[] lowUses = new long[MOST_BINDINGS];
        private final long[] highUses = new long[MOST_BINDINGS];
        private Unit unit;
        private boolean narrow;
        private boolean local;
        private int latestOwner;
        private int unitGroups;
        private int faultNumber;
        private int faultToken;

        Typer() {
            types = new Types();
            heads = new Heads(types);
            wants = new Wants(types, heads);
        }

        /** Types a unit: 0, or the fault. */
        int typeUnit(Unit source, boolean narrowOn, boolean localOn) {
            unit = source;
            narrow = narrowOn;
            local = localOn;
            begin();
            try {
                failIf(WRONG_TYPE, heads.collect(unit));
                failIf(WRONG_TYPE, heads.wrongInData());
                failIf(TOO_LARGE, heads.build());
                typeDecls(unit.root);
                finish();
            } catch (IllegalStateException found) {
                return faultNumber;
            }
            return 0;
        }

        private void begin() {
            types.begin();
            wants.count = 0;
            latestOwner = HEADS;
            faultNumber = 0;
            faultToken = 0;
            unitGroups = 0;
            for (int i = 0; i < unit.lowCount; i++) {
                unit.lows[i].scheme = NONE;
                unit.lows[i].owner = NOBODY;
                unit.lows[i].given = null;
            }
        }

        private void fail(int number, int token) {
            faultNumber = number;
            faultToken = token;
            throw new IllegalStateException("a fault");
        }

        private void failIf(int number, int token) {
            if (token != NONE) {
                fail(number, token);
            }
        }

        /** What the whole unit leaves open is settled; then nothing may be too large. */
        private void finish() {
            failAtWant(wants.reduce(0, true));
            for (int i = 0; i < wants.stayCount; i++) {
                settle(wants.stayTypes[i]);
            }
            for (int i = 0; i < unit.lowCount; i++) {
                Low low = unit.lows[i];
                if (low.decls == unit.root && types.parts(low.scheme) > MOST_PARTS) {
                    fail(TOO_LARGE, low.place);
                }
            }
            for (int i = 0; i < unit.holeCount; i++) {
                if (types.parts(holeTypes[i]) > MOST_PARTS) {
                    fail(TOO_LARGE, unit.holeTokens[i]);
                }
            }
        }

        private void unify(int left, int right, int token) {
            int wrong = types.join(left, right, 0, true);
            if (wrong != 0) {
                fail(wrong, token);
            }
        }

        private int instance(int scheme, int owner, int token) {
            if (types.parts(scheme) > MOST_PARTS) {
                fail(TOO_LARGE, token);
            }
            types.copiedCount = 0;
            int copy = types.copy(scheme, owner, false, 0);
            for (int i = 0; i < types.copiedCount; i++) {
                wants.addAll(types.classes[types.originals[i]], types.copies[i], token);
            }
            return copy;
        }

        /** What the wants that were reduced led to. */
        private void failAtWant(int number) {
            if (number != 0) {
                fail(number, wants.wrongToken);
            }
        }

        /** A variable of which something is wanted that nobody else can still say. */
        private void settle(int wanted) {
            int variable = types.find(wanted);
            if (types.kinds[variable] != VARIABLE) {
                return;
            }
            if (!wants.isNumeric(variable)) {
                fail(NOT_SETTLED, wants.firstToken(variable));
            }
            types.become(variable, INT_TYPE);
        }

        private int typeExp(Node node) {
            if (node == null) {
                return types.variable();
            }
            switch (node.kind) {
                case ROW: case LIST: case TUPLE: case CHAIN: case IF:
                    break;
                case LOW:
                    Low low = unit.meaningAt(node.first);
                    return low != null ? instance(low.scheme, low.owner, node.first)
                        : instance(schemeOfLow(node.first), HEADS, node.first);
                case HIGH:
                    return instance(schemeOfHigh(node.first), HEADS, node.first);
                case LAMBDA:
                    return typeFunction(node);
                case LET:
                    typeDecls(node.child);
                    return typeExp(node.tail);
                case CASE:
                    return typeCase(node);
                case RECORD:
                    return typeRecord(node, false);
                case UPDATE:
                    return typeUpdates(node);
                case TYPED:
                    failIf(WRONG_TYPE, heads.wrongInType(unit.text, node.tail, null, false));
                    int of = typeExp(node.child);
                    unify(of, heads.buildTold(node.tail), node.mark);
                    return of;
                default:
                    return typeLeaf(node);
            }
            int soFar = NONE;
            for (Node part = node.child; part != null; part = part.next) {
                int it = part.kind == COLON ? part.first : typeExp(part);
                soFar = withPart(node, part, soFar, it);
            }
            return node.kind == CHAIN ? chained(node.childCount()) : whole(node, soFar);
        }

        private int typeLeaf(Node node) {
            if (node.kind == SIGN) {
                return CHAR_TYPE;
            }
            int open = types.variable();
            if (node.kind == NUMBER) {
                wants.add(NUM, open, node.first);
            } else if (node.mark >= 0 && node.mark < holeTypes.length) {
                holeTypes[node.mark] = open;
            }
            return open;
        }

        /** The scheme of a LOW that is KNOWN or a field. */
        private int schemeOfLow(int token) {
            int name = unit.text.nameAt(token);
            if (name >= 0 && name < KNOWN) {
                return types.known[name];
            }
            int field = heads.fieldOf(name);
            if (field == NONE) {
                fail(NO_MEANING, token);
            }
            return heads.fieldSchemes[field];
        }

        private int schemeOfHigh(int token) {
            int name = unit.text.nameAt(token);
            if (name == FALSE_NAME || name == TRUE_NAME) {
                return BOOL_TYPE;
            }
            int part = heads.partOf(name);
            if (part == NONE) {
                fail(NO_MEANING, token);
            }
            return heads.partSchemes[part];
        }

        /** What a row, a list, a choice, a tuple or a chain is with one more of its parts. */
        private int withPart(Node node, Node part, int soFar, int it) {
            boolean first = part == node.child;
            switch (node.kind) {
                case ROW:
                    if (first) {
                        return it;
                    }
                    int result = types.variable();
                    unify(soFar, types.function(it, result), part.first);
                    return result;
                case IF:
                    if (first) {
                        unify(it, BOOL_TYPE, part.first);
                        return NONE;
                    }
                    if (soFar == NONE) {
                        return it;
                    }
                    unify(soFar, it, part.first);
                    return soFar;
                case LIST:
                    if (first) {
                        return it;
                    }
                    unify(soFar, it, part.first);
                    return soFar;
                default:
                    types.push(it);
                    return NONE;
            }
        }

        private int whole(Node node, int soFar) {
            switch (node.kind) {
                case LIST:
                    return types.list(soFar == NONE ? types.variable() : soFar);
                case TUPLE:
                    return types.compound(TUPLE_OF, node.childCount());
                default:
                    return soFar;
            }
        }

        /** Types of a chain were pushed, and between them the tokens of its colons. */
        private int chained(int count) {
            int right = types.pop();
            for (int i = 2; i < count; i += 2) {
                int colon = types.pop();
                int left = types.pop();
                unify(right, types.list(left), colon);
            }
            return right;
        }

        /** The apats and the exp of an equation or a \. */
        private int typeFunction(Node node) {
            int count = 0;
            Node part = node.child;
            while (part != null && part.next != null) {
                types.push(typePat(part));
                count++;
                part = part.next;
            }
            int result = typeExp(part);
            for (int i = 0; i < count; i++) {
                result = types.function(types.pop(), result);
            }
            return result;
        }

        private int typeCase(Node node) {
            int subject = typeExp(node.child);
            int result = NONE;
            Node branch = node.child == null ? null : node.child.next;
            for (; branch != null; branch = branch.next) {
                Node pat = branch.child;
                Node exp = branch.tail;
                if (pat == null || exp == null) {
                    return subject;
                }
                unify(subject, typePat(pat), pat.first);
                int it = typeExp(exp);
                if (result == NONE) {
                    result = it;
                } else {
                    unify(result, it, exp.first);
                }
            }
            return result;
        }

        /** Looks at fields that are told of a part, all of them. */
        private void checkFields(Node brace, int part) {
            for (Node field = brace.child; field != null; field = field.next) {
                boolean own = heads.placeInPart(part, unit.text.nameAt(field.first)) != NONE;
                if (!own || heads.isAhead(brace.child, field)) {
                    fail(NO_MEANING, field.first);
                }
            }
        }

        /** The type at a place ahead of the result of a part's type. */
        private int typeAt(int partType, int place) {
            int rest = partType;
            for (int i = 0; i < place; i++) {
                rest = types.kid(rest, 1);
            }
            return types.kid(rest, 0);
        }

        private int typesAhead(int partType) {
            int rest = partType;
            int count = 0;
            while (count < MOST_PARTS && types.kindOf(rest) == FUNCTION) {
                rest = types.kid(rest, 1);
                count++;
            }
            return count;
        }

        private int resultOf(int partType) {
            int rest = partType;
            for (int i = 0; i < MOST_PARTS && types.kindOf(rest) == FUNCTION; i++) {
                rest = types.kid(rest, 1);
            }
            return rest;
        }

        /** HIGH { }, of an exp or a pat. */
        private int typeRecord(Node node, boolean asPat) {
            int scheme = schemeOfHigh(node.first);
            int part = heads.partOf(unit.text.nameAt(node.first));
            Node brace = node.child;
            if (brace == null) {
                return scheme;
            }
            checkFields(brace, part);
            int made = instance(scheme, HEADS, node.first);
            for (Node field = brace.child; field != null; field = field.next) {
                int place = heads.placeInPart(part, unit.text.nameAt(field.first));
                Node value = field.child;
                if (value != null) {
                    int it = asPat ? typePat(value) : typeExp(value);
                    unify(typeAt(made, place), it, value.first);
                }
            }
            return resultOf(made);
        }

        private int typeUpdates(Node node) {
            int soFar = typeExp(node.child);
            Node brace = node.child == null ? null : node.child.next;
            for (; brace != null; brace = brace.next) {
                soFar = typeUpdate(brace, soFar);
            }
            return soFar;
        }

        private int typeUpdate(Node brace, int old) {
            int number = dataOfFields(brace);
            types.copiedCount = 0;
            int whole = types.copy(heads.wholes[number], HEADS, false, 0);
            unify(whole, old, brace.first);
            for (Node field = brace.child; field != null; field = field.next) {
                int place = heads.fieldOf(unit.text.nameAt(field.first));
                Node value = field.child;
                if (value != null && place != NONE) {
                    int it = typeExp(value);
                    unify(fieldIn(whole, number, place), it, value.first);
                }
            }
            return whole;
        }

        /** A field's type, with the types of a T for the variables of its data. */
        private int fieldIn(int whole, int number, int field) {
            int general = heads.wholes[number];
            types.copiedCount = 0;
            for (int i = 0; i < MOST_TYPES && i < types.arities[general]; i++) {
                types.originals[i] = types.kid(general, i);
                types.copies[i] = types.kid(whole, i);
                types.copiedCount++;
            }
            return types.copy(heads.fieldTypes[field], HEADS, false, 0);
        }

        /** Looks at the fields of another one with { }: the number of their data. */
        private int dataOfFields(Node brace) {
            int number = NONE;
            for (Node field = brace.child; field != null; field = field.next) {
                int place = heads.fieldOf(unit.text.nameAt(field.first));
                if (place == NONE || heads.isAhead(brace.child, field)) {
                    fail(NO_MEANING, field.first);
                }
                number = heads.fieldData[place];
            }
            if (number == NONE || !heads.somePartHas(brace)) {
                fail(NO_MEANING, brace.first);
            }
            return number;
        }

        private int typePat(Node node) {
            if (node == null) {
                return types.variable();
            }
            switch (node.kind) {
                case TUPLE: case LIST: case CHAIN:
                    break;
                case HIGH:
                    return typePart(node);
                case RECORD:
                    return typeRecord(node, true);
                default:
                    return typePatLeaf(node);
            }
            int soFar = NONE;
            for (Node part = node.child; part != null; part = part.next) {
                int it = part.kind == COLON ? part.first : typePat(part);
                soFar = withPart(node, part, soFar, it);
            }
            return node.kind == CHAIN ? chained(node.childCount()) : whole(node, soFar);
        }

        private int typePatLeaf(Node node) {
            if (node.kind == SIGN) {
                return CHAR_TYPE;
            }
            int type = types.variable();
            if (node.kind == NUMBER) {
                wants.add(EQ, type, node.first);
                wants.add(NUM, type, node.first);
            }
            Low low = node.kind == LOW ? node.low : null;
            if (low == null) {
                return type;
            }
            if (low.decls != null) {
                low.typeInPattern = type;
                return type;
            }
            if (isSecond(low)) {
                fail(TWICE, node.first);
            }
            low.scheme = type;
            return type;
        }

        private boolean isSecond(Low low) {
            for (int i = 0; i < unit.lowCount && unit.lows[i] != low; i++) {
                Low other = unit.lows[i];
                if (other.decls == null && other.pattern == low.pattern && other.name == low.name) {
                    return true;
                }
            }
            return false;
        }

        private int typePart(Node node) {
            int rest = instance(schemeOfHigh(node.first), HEADS, node.first);
            if (typesAhead(rest) != node.childCount()) {
                fail(WRONG_COUNT, node.first);
            }
            for (Node part = node.child; part != null; part = part.next) {
                int it = typePat(part);
                unify(types.kid(rest, 0), it, part.first);
                rest = types.kid(rest, 1);
            }
            return rest;
        }

        private void typeDecls(Node decls) {
            if (decls == null) {
                return;
            }
            checkDeclared(decls);
            checkGiven(decls);
            int groups = arrange(decls);
            if (decls == unit.root) {
                unitGroups = groups;
            }
            for (int i = 0; i < groups; i++) {
                typeGroup(decls, i);
            }
            for (Node decl = decls.child; decl != null; decl = decl.next) {
                if (decl.lead == decl && decl.low != null && decl.low.given != null) {
                    typeGivenBinding(decls, decl);
                }
            }
        }

        /** Looks at the LOWs that decls give types to and declare, token by token. */
        private void checkDeclared(Node decls) {
            for (Node decl = decls.child; decl != null; decl = decl.next) {
                if (decl.kind == PATTERNED) {
                    checkPatternLows(decls, decl);
                } else if (decl.kind == GIVEN || decl.kind == EQUATION) {
                    boolean again = decl.kind == GIVEN ? heads.isAhead(decls.child, decl) : isDeclaredAgain(decl);
                    if (again || isTaken(decls, decl.first)) {
                        fail(TWICE, decl.first);
                    }
                }
            }
        }

        private boolean isDeclaredAgain(Node equation) {
            return equation.lead == equation && equation.low != null && equation.low.place != equation.first;
        }

        private void checkPatternLows(Node decls, Node binding) {
            for (int token = binding.mark; token < binding.end; token++) {
                Low low = unit.declaredAt(token);
                if (low != null && low.decls == decls && (low.place != token || isTaken(decls, token))) {
                    fail(TWICE, token);
                }
            }
        }

        /** Names that mean something everywhere can't be declared by the unit itself. */
        private boolean isTaken(Node decls, int token) {
            int name = unit.text.nameAt(token);
            return decls == unit.root && (name < KNOWN || heads.fieldOf(name) != NONE);
        }

        private void checkGiven(Node decls) {
            for (Node decl = decls.child; decl != null; decl = decl.next) {
                if (decl.kind == GIVEN) {
                    Low low = unit.lowOf(decls, decl.first);
                    if (low == null || low.lead == null || low.lead.kind == PATTERNED) {
                        fail(TWICE, decl.first);
                    }
                }
            }
            for (Node decl = decls.child; decl != null; decl = decl.next) {
                Low low = decl.kind == GIVEN ? unit.lowOf(decls, decl.first) : null;
                if (low != null) {
                    failIf(WRONG_TYPE, heads.wrongInGiven(unit.text, decl));
                    latestOwner++;
                    low.given = decl;
                    low.owner = latestOwner;
                    low.scheme = heads.buildGiven(unit.text, decl, latestOwner, false);
                    if (types.parts(low.scheme) > MOST_PARTS) {
                        fail(TOO_LARGE, decl.first);
                    }
                }
            }
        }

        /** Puts the bindings of decls without given types into groups: how many there are. */
        private int arrange(Node decls) {
            memberCount = 0;
            for (Node decl = decls.child; decl != null; decl = decl.next) {
                boolean given = decl.low != null && decl.low.given != null;
                if (decl.lead == decl && !given && memberCount < MOST_BINDINGS) {
                    decl.groupNumber = NONE;
                    decl.bindingNumber = memberCount;
                    members[memberCount] = decl;
                    lowUses[memberCount] = 0;
                    highUses[memberCount] = 0;
                    memberCount++;
                }
            }
            for (int i = 0; i < memberCount; i++) {
                findUses(decls, i);
            }
            useByOthers();
            int groups = 0;
            for (int i = 0; i < memberCount && comesNext(groups); i++) {
                groups++;
            }
            return groups;
        }

        private void findUses(Node decls, int i) {
            for (int token = members[i].first; token < members[i].end; token++) {
                Low low = unit.meaningAt(token);
                if (low != null && low.decls == decls && low.given == null && low.lead != null) {
                    use(i, low.lead.bindingNumber);
                }
            }
        }

        private void use(int i, int j) {
            if (j >= BITS) {
                highUses[i] |= 1L << (j - BITS);
            } else if (j >= 0) {
                lowUses[i] |= 1L << j;
            }
        }

        private boolean uses(int i, int j) {
            long set = j < BITS ? lowUses[i] : highUses[i];
            return (set >>> (j % BITS) & 1L) != 0;
        }

        private void useByOthers() {
            for (int k = 0; k < memberCount; k++) {
                for (int i = 0; i < memberCount; i++) {
                    if (uses(i, k)) {
                        lowUses[i] |= lowUses[k];
                        highUses[i] |= highUses[k];
                    }
                }
            }
        }

        /** The first binding that waits for no other group takes its group along. */
        private boolean comesNext(int group) {
            for (int i = 0; i < memberCount; i++) {
                if (members[i].groupNumber == NONE && isReady(i)) {
                    for (int j = i; j < memberCount; j++) {
                        if (j == i || uses(i, j) && uses(j, i)) {
                            members[j].groupNumber = group;
                        }
                    }
                    return true;
                }
            }
            return false;
        }

        private boolean isReady(int i) {
            for (int j = 0; j < memberCount; j++) {
                if (uses(i, j) && !uses(j, i) && members[j].groupNumber == NONE) {
                    return false;
                }
            }
            return true;
        }

        private static boolean isOfGroup(Low low, Node decls, int group) {
            return low.decls == decls && low.given == null && low.lead != null && low.lead.groupNumber == group;
        }

        private void typeGroup(Node decls, int group) {
            int since = wants.count;
            for (int i = 0; i < unit.lowCount; i++) {
                if (isOfGroup(unit.lows[i], decls, group)) {
                    unit.lows[i].scheme = types.variable();
                }
            }
            for (Node decl = decls.child; decl != null; decl = decl.next) {
                if (decl.lead == null || decl.lead.groupNumber != group) {
                    continue;
                }
                if (decl.kind == PATTERNED) {
                    typePatternBinding(decl);
                } else if (decl.low != null) {
                    unify(decl.low.scheme, typeFunction(decl), decl.first);
                }
            }
            close(decls, group, since);
        }

        private void typePatternBinding(Node binding) {
            int left = typePat(binding.child);
            for (int i = 0; i < unit.lowCount; i++) {
                Low low = unit.lows[i];
                if (low.lead == binding) {
                    unify(low.scheme, low.typeInPattern, low.place);
                }
            }
            int right = typeExp(binding.tail);
            unify(left, right, binding.first);
        }

        /** Marks what is not FREE in the types of LOWs around decls and of their groups before one. */
        private void markAround(Node decls, int group) {
            types.beginAround();
            for (int i = 0; i < unit.lowCount; i++) {
                Low low = unit.lows[i];
                boolean before = low.decls == decls
                    ? low.given == null && low.lead != null && low.lead.groupNumber < group
                    : low.isSeenAt(decls.first);
                if (before && low.scheme != NONE) {
                    types.markAround(low.scheme);
                }
            }
        }

        private void close(Node decls, int group, int since) {
            markAround(decls, group);
            failAtWant(wants.reduce(since, true));
            for (int i = 0; i < unit.lowCount; i++) {
                Low low = unit.lows[i];
                if (isOfGroup(low, decls, group) && types.parts(low.scheme) > MOST_PARTS) {
                    fail(TOO_LARGE, low.place);
                }
            }
            boolean bound = decls != unit.root && !local;
            boolean narrowed = narrow && isNarrow(decls, group);
            if (bound || narrowed) {
                for (int i = 0; i < wants.stayCount; i++) {
                    types.markAround(wants.stayTypes[i]);
                    wants.goOutward(i);
                }
            } else {
                shareOut(decls, group);
            }
            if (!bound) {
                makeFree(decls, group);
            }
        }

        private boolean isNarrow(Node decls, int group) {
            for (Node decl = decls.child; decl != null; decl = decl.next) {
                boolean open = decl.kind == PATTERNED || decl.kind == EQUATION && decl.mark == 0;
                if (open && decl.lead != null && decl.lead.groupNumber == group) {
                    return true;
                }
            }
            return false;
        }

        /** What stays goes outward, or belongs to the group's LOWs, or is settled. */
        private void shareOut(Node decls, int group) {
            types.beginSeen();
            for (int i = 0; i < unit.lowCount; i++) {
                if (isOfGroup(unit.lows[i], decls, group)) {
                    types.markSeen(unit.lows[i].scheme);
                }
            }
            for (int i = 0; i < wants.stayCount; i++) {
                int variable = wants.stayTypes[i];
                if (types.isAround(variable)) {
                    wants.goOutward(i);
                } else if (types.isSeen(variable)) {
                    types.classes[variable] |= wants.stayClass(i);
                } else {
                    settle(variable);
                }
            }
        }

        private void makeFree(Node decls, int group) {
            latestOwner++;
            for (int i = 0; i < unit.lowCount; i++) {
                Low low = unit.lows[i];
                if (isOfGroup(low, decls, group)) {
                    types.free(low.scheme, latestOwner);
                    low.owner = latestOwner;
                }
            }
        }

        private void typeGivenBinding(Node decls, Node lead) {
            int since = wants.count;
            int before = types.count;
            types.copiedCount = 0;
            int scheme = types.copy(lead.low.scheme, lead.low.owner, true, 0);
            int behind = types.count;
            for (Node decl = lead; decl != null && decl.lead == lead; decl = decl.next) {
                unify(scheme, typeFunction(decl), decl.first);
            }
            markAround(decls, FAR);
            failAtWant(wants.reduce(since, true));
            for (int i = 0; i < wants.stayCount; i++) {
                if (types.isAround(wants.stayTypes[i])) {
                    wants.goOutward(i);
                } else {
                    settle(wants.stayTypes[i]);
                }
            }
            for (int fixed = before; fixed < behind; fixed++) {
                if (types.kinds[fixed] == FIXED && types.isAround(fixed)) {
                    fail(NOT_ALIKE, lead.first);
                }
            }
        }
    }

    /** Compares schemes with the types of holes and with given types. */
    private static final class Matcher {
        private final Types types;
        private final Heads heads;
        private final Wants wants;
        private final Typer typer;
        private int found;
        private int sought;
        private int answer;

        Matcher(Typer source) {
            typer = source;
            types = source.types;
            heads = source.heads;
            wants = source.wants;
        }

        /** Counts the names that fit a hole, up to the one that is sought: whether it is there. */
        boolean searchNames(Unit unit, int hole, int wanted) {
            found = 0;
            sought = wanted;
            if (hole < 0 || hole >= typer.holeTypes.length) {
                return false;
            }
            int place = unit.holeTokens[hole];
            int type = typer.holeTypes[hole];
            return searchKnown(unit, place, type) || searchHeads(unit, place, type) || searchLows(unit, place, type);
        }

        private boolean searchKnown(Unit unit, int place, int type) {
            for (int i = 0; i < KNOWN; i++) {
                boolean seen = i < FIRST_KNOWN_LOW || unit.lowSeen(i, place) == null;
                if (seen && isMatch(types.known[i], HEADS, type) && isSought(-2 - i)) {
                    return true;
                }
            }
            return false;
        }

        private boolean searchHeads(Unit unit, int place, int type) {
            int part = 0;
            int field = 0;
            int all = heads.partCount + heads.fieldCount;
            for (int i = 0; i < all; i++) {
                boolean partFirst = field >= heads.fieldCount
                    || part < heads.partCount && heads.parts[part].first < heads.fields[field].first;
                Node node = partFirst ? heads.parts[part] : heads.fields[field];
                int scheme = partFirst ? heads.partSchemes[part] : heads.fieldSchemes[field];
                boolean seen = partFirst || unit.lowSeen(unit.text.nameAt(node.first), place) == null;
                if (seen && isMatch(scheme, HEADS, type) && isSought(node.first)) {
                    return true;
                }
                if (partFirst) {
                    part++;
                } else {
                    field++;
                }
            }
            return false;
        }

        private boolean searchLows(Unit unit, int place, int type) {
            for (int i = 0; i < unit.lowCount; i++) {
                Low low = unit.lows[i];
                boolean seen = unit.lowSeen(low.name, place) == low;
                if (seen && isMatch(low.scheme, low.owner, type) && isSought(low.place)) {
                    return true;
                }
            }
            return false;
        }

        private boolean isSought(int name) {
            answer = name;
            found++;
            return found - 1 == sought;
        }

        /** Whether an instance, which alone may change, can become a type. */
        private boolean isMatch(int scheme, int owner, int type) {
            if (types.parts(scheme) > MOST_PARTS) {
                return false;
            }
            int oldCount = types.count;
            int oldKidCount = types.kidCount;
            int since = wants.count;
            types.copiedCount = 0;
            int instance = types.copy(scheme, owner, false, 0);
            for (int i = 0; i < types.copiedCount; i++) {
                wants.addAll(types.classes[types.originals[i]], types.copies[i], 0);
            }
            boolean match = types.join(instance, type, oldCount, false) == 0 && wants.reduce(since, false) == 0;
            for (int i = 0; i < wants.stayCount && match; i++) {
                match = wants.stayTypes[i] >= oldCount;
            }
            wants.count = since;
            types.backTo(oldCount, oldKidCount);
            return match;
        }

        boolean isRight(Unit given) {
            return given.root != null && heads.wrongInGiven(given.text, given.root) == NONE;
        }

        boolean isAsGeneral(Low low, Unit given) {
            int oldCount = types.count;
            int oldKidCount = types.kidCount;
            int type = heads.buildGiven(given.text, given.root, NOBODY, true);
            boolean match = isMatch(low.scheme, low.owner, type);
            types.backTo(oldCount, oldKidCount);
            return match;
        }
    }

    /** Writes schemes; keeps what was written latest. */
    private static final class Writer {
        private final Types types;
        private final Heads heads;
        private byte[] bytes = new byte[256];
        private int size;
        /** The variables of the type that is written, as they come first. */
        private final int[] variables = new int[MOST_PARTS + 4];
        private int variableCount;

        Writer(Typer source) {
            types = source.types;
            heads = source.heads;
        }

        int writeScheme(int scheme, int owner) {
            size = 0;
            variableCount = 0;
            collect(scheme, 0);
            if (owner != NOBODY) {
                writeWants(owner);
            }
            writeType(scheme, 0);
            return size;
        }

        private void write(int letter) {
            if (size >= bytes.length) {
                bytes = Arrays.copyOf(bytes, 2 * bytes.length);
            }
            bytes[size] = (byte) letter;
            size++;
        }

        private void writeText(String text) {
            for (int i = 0; i < text.length(); i++) {
                write(text.charAt(i));
            }
        }

        private void collect(int any, int depth) {
            int found = types.find(any);
            boolean open = types.kinds[found] == VARIABLE || types.kinds[found] == FIXED;
            if (open && placeOf(found) == NONE && variableCount < variables.length) {
                variables[variableCount] = found;
                variableCount++;
            }
            for (int i = 0; i < types.arities[found] && depth < MOST_PARTS; i++) {
                collect(types.kid(found, i), depth + 1);
            }
        }

        private int placeOf(int variable) {
            for (int i = 0; i < variableCount; i++) {
                if (variables[i] == variable) {
                    return i;
                }
            }
            return NONE;
        }

        private int wantedOf(int variable, int owner) {
            return types.owners[variable] == owner ? types.classes[variable] : 0;
        }

        private void writeWants(int owner) {
            int count = 0;
            for (int i = 0; i < variableCount; i++) {
                count += Integer.bitCount(wantedOf(variables[i], owner));
            }
            if (count == 0) {
                return;
            }
            writeText(count > 1 ? "(" : "");
            int written = 0;
            for (int i = 0; i < variableCount; i++) {
                for (int bit = EQ; bit <= NUM; bit *= 2) {
                    if ((wantedOf(variables[i], owner) & bit) != 0) {
                        writeText(written > 0 ? ", " : "");
                        writeText(bit == EQ ? "Eq " : bit == ORD ? "Ord " : "Num ");
                        writeVariable(i);
                        written++;
                    }
                }
            }
            writeText(count > 1 ? ") => " : " => ");
        }

        private void writeVariable(int place) {
            write('a' + place % 26);
            if (place >= 26) {
                write('0' + place / 26);
            }
        }

        private void writeType(int any, int depth) {
            int found = types.find(any);
            int kind = types.kinds[found];
            if (depth > MOST_PARTS) {
                return;
            }
            switch (kind) {
                case VARIABLE: case FIXED:
                    writeVariable(Math.max(0, placeOf(found)));
                    break;
                case FUNCTION:
                    writeInner(types.kid(found, 0), types.kindOf(types.kid(found, 0)) == FUNCTION, depth);
                    writeText(" -> ");
                    writeType(types.kid(found, 1), depth + 1);
                    break;
                case LIST_OF:
                    write('[');
                    writeType(types.kid(found, 0), depth + 1);
                    write(']');
                    break;
                case TUPLE_OF:
                    writeTuple(found, depth);
                    break;
                default:
                    writeHead(kind);
                    for (int i = 0; i < types.arities[found]; i++) {
                        write(' ');
                        writeInner(types.kid(found, i), isWide(types.kid(found, i)), depth);
                    }
                    break;
            }
        }

        private void writeTuple(int found, int depth) {
            write('(');
            for (int i = 0; i < types.arities[found]; i++) {
                writeText(i > 0 ? ", " : "");
                writeType(types.kid(found, i), depth + 1);
            }
            write(')');
        }

        private void writeInner(int any, boolean inBrackets, int depth) {
            writeText(inBrackets ? "(" : "");
            writeType(any, depth + 1);
            writeText(inBrackets ? ")" : "");
        }

        private boolean isWide(int any) {
            int found = types.find(any);
            int kind = types.kinds[found];
            return kind == FUNCTION || kind >= OF_DATA && types.arities[found] > 0;
        }

        private void writeHead(int kind) {
            if (kind < OF_DATA) {
                writeText(kind == INT ? "Int" : kind == CHAR ? "Char" : "Bool");
                return;
            }
            int number = kind - OF_DATA;
            if (number >= heads.dataCount) {
                return;
            }
            Text text = heads.unit.text;
            int token = heads.data[number].first;
            for (int i = text.starts[token]; i < text.ends[token]; i++) {
                write(text.byteAt(i));
            }
        }
    }
}
