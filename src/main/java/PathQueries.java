import java.util.Arrays;

/**
 * A graph of nodes and arcs that is asked by questions in a small language of patterns.
 *
 * A text comes over the tape, is split into tokens, read by an automaton with a stack of open
 * signs (so nothing in this file calls itself), and kept as ways, demands and a row of operations.
 */
public final class PathQueries {
    public static final int BAD = -1;
    public static final int NO = -2;
    public static final int FULL = -3;
    public static final int LARGE = -4;

    private static final int BAD_NUMBER = 10000;
    private static final int BAD_ITEM = 2000000000;
    private static final int FAULT_BASE = -10;
    private static final int NEVER = -1;
    private static final int NONE_YET = -1;

    private static final int TAPE_BYTES = 1500;
    private static final int FEED_BYTES = 20;
    private static final int QUESTIONS = 4;
    private static final int RULES = 4;

    private static final int MOST_NODES = 16;
    private static final int MARK_SETS = 256;
    private static final int COLUMNS = 4;
    private static final int COLUMN_BOUND = 9999;
    private static final int MOST_ARCS = 100;
    private static final int LABELS = 8;
    private static final int MOST_WEIGHT = 99;
    private static final int FREE = -1;

    // Steps of ways: the told labels, those of rules behind them, and last the one for any told label.
    private static final int ANY_LABEL = LABELS + RULES;
    private static final int STEP_KINDS = 2 * (ANY_LABEL + 1);

    private static final int MOST_TOKENS = 200;
    private static final int SLOTS = 8;
    private static final int MOST_WAYS = 10;
    private static final int MOST_STEPS = 16;
    private static final int MOST_ITEMS = 8;
    private static final int MOST_OPEN = 10;
    // A token may end a VARIABLE, an exp and a fact at once before it is taken.
    private static final int MOST_PASSES = 8;
    // An absence and a node with marks need four tokens or more, so no text has as many of them.
    private static final int MOST_GROUPS = 70;
    private static final int MOST_DEMANDS = 70;
    // Between two open signs five kinds of others may wait.
    private static final int MOST_WAITING = 80;
    private static final int VALUE_BOUND = 1000000000;
    private static final int MOST_WORK = 20000;
    private static final int MOST_RULE_WORK = 1000000;
    private static final int MOST_TURNS = 1000000;

    private static final int NO_TOKEN = 1;
    private static final int CANT_STAND = 2;
    private static final int TOO_MUCH = 3;
    private static final int TOLD_BEFORE = 4;
    private static final int NOT_KNOWN = 5;
    private static final int NOT_ALLOWED = 6;

    // Kinds of tokens; a sign of one character is its own kind.
    private static final int NONE = 0;
    private static final int END = 1;
    private static final int VARIABLE = 2;
    private static final int MARK = 3;
    private static final int COLUMN = 4;
    private static final int LABEL = 5;
    private static final int NUMBER = 6;
    private static final int MATCH = 10;
    private static final int WHERE = 11;
    private static final int GIVE = 12;
    private static final int LIMIT = 13;
    private static final int AND = 14;
    private static final int OR = 15;
    private static final int NOT = 16;
    private static final int ABSENCE = 17;
    private static final int LEAST = 18;
    private static final int COUNT = 19;
    private static final int SUM = 20;
    private static final int MIN = 21;
    private static final int MAX = 22;
    private static final int RULE = 23;
    private static final int ARROW = 256;
    private static final int BACK_ARROW = 257;
    private static final int UNEQUAL = 258;
    private static final int AT_MOST = 259;
    private static final int AT_LEAST = 260;

    // The words stand in the order of their kinds, each with a blank behind it.
    private static final String WORDS = "match where give limit and or not no least count sum min max rule ";
    private static final String SIGNS = "()[]-:,._^*+?|=<>";
    private static final String VARIABLE_LETTERS = "xyzuvw";
    private static final String LABEL_LETTERS = "abcdefghABCD";
    private static final int NAMES_OF_LETTER = 11;
    private static final int NAMES = 66;

    // Operations of conditions and items; what they are of stands above them in the same int.
    private static final int OP_KINDS = 32;
    private static final int OP_NUMBER = 0;
    private static final int OP_NODE = 1;
    private static final int OP_COLUMN = 2;
    private static final int OP_LEAST = 3;
    private static final int OP_ABSENT = 4;
    private static final int OP_MINUS = 5;
    private static final int OP_NOT = 6;
    private static final int OP_SKIP_FALSE = 7;
    private static final int OP_SKIP_TRUE = 8;
    private static final int OP_ADD = 9;
    private static final int OP_SUBTRACT = 10;
    private static final int OP_MULTIPLY = 11;
    private static final int OP_EQUAL = 12;
    private static final int OP_UNEQUAL = 13;
    private static final int OP_BELOW = 14;
    private static final int OP_AT_MOST = 15;
    private static final int OP_ABOVE = 16;
    private static final int OP_AT_LEAST = 17;

    // How tightly a sign binds: what waits goes out before a sign that binds no tighter.
    private static final int RANK_OPEN = 0;
    private static final int RANK_OR = 1;
    private static final int RANK_AND = 2;
    private static final int RANK_NOT = 3;
    private static final int RANK_COMPARE = 4;
    private static final int RANK_PLUS = 5;
    private static final int RANK_TIMES = 6;
    private static final int RANK_MINUS = 7;

    // What is due next in a text.
    private static final int TEXT_DUE = 0;
    private static final int RULE_LABEL_DUE = 1;
    private static final int MATCH_DUE = 2;
    private static final int NODE_DUE = 3;
    private static final int IN_NODE = 4;
    private static final int IN_MARKS = 5;
    private static final int MARK_DUE = 6;
    private static final int AFTER_NODE = 7;
    private static final int IN_WAY = 8;
    private static final int LEAST_DUE = 9;
    private static final int ROWS_DUE = 10;
    private static final int WAY_END_DUE = 11;
    private static final int STEP_DUE = 12;
    private static final int BACK_STEP_DUE = 13;
    private static final int AFTER_FIRST = 14;
    private static final int AFTER_STEP = 15;
    private static final int FACT_DUE = 16;
    private static final int AFTER_FACT = 17;
    private static final int UNIT_DUE = 18;
    private static final int AFTER_VARIABLE = 19;
    private static final int COLUMN_DUE = 20;
    private static final int AFTER_UNIT = 21;
    private static final int ITEM_DUE = 22;
    private static final int AFTER_ITEM = 23;
    private static final int LIMIT_DUE = 24;
    private static final int GIVE_FROM_DUE = 25;
    private static final int GIVE_COMMA_DUE = 26;
    private static final int GIVE_TO_DUE = 27;
    private static final int END_DUE = 28;

    // Parts of rows of steps while they are read: which steps may be first (16 bits), which last
    // (16 bits), and whether all of them may lack.
    private static final long STEP_BITS = 0xFFFFL;
    private static final long MAY_LACK = 1L << 32;
    private static final long NOTHING = -1L;

    // Where an exp stands.
    private static final int LEFT = 0;
    private static final int RIGHT = 1;
    private static final int IN_ITEM = 2;

    private final byte[] tape = new byte[TAPE_BYTES];
    private final Graph graph = new Graph();
    private Text spare = new Text();
    private final Reader reader = new Reader(spare);
    private final Finder finder = new Finder(graph, spare);
    private final RuleBook book = new RuleBook(graph, finder);
    private final Collector collector = new Collector(finder);
    private final Text[] questions = new Text[QUESTIONS];
    private final Rows[] answers = new Rows[QUESTIONS];
    private final int[] answeredAt = new int[QUESTIONS];
    private int length = 0;

    public PathQueries() {
        for (int q = 0; q < QUESTIONS; q++) {
            questions[q] = new Text();
            answers[q] = new Rows();
            answeredAt[q] = NEVER;
        }
    }

    public int feed(int a, int b, int c, int d, int e) {
        if (length + FEED_BYTES > TAPE_BYTES) {
            return FULL;
        }
        append(a);
        append(b);
        append(c);
        append(d);
        append(e);
        return length;
    }

    private void append(int four) {
        for (int shift = 24; shift >= 0 && length < TAPE_BYTES; shift -= 8) {
            tape[length] = (byte) (four >> shift);
            length++;
        }
    }

    public int cut(int n) {
        if (n < 0 || n > length) {
            return BAD;
        }
        length -= n;
        return length;
    }

    public int node(int marks) {
        if (marks < 0 || marks >= MARK_SETS) {
            return BAD;
        }
        return graph.addNode(marks);
    }

    public int mark(int n, int marks) {
        if (!graph.isNode(n) || marks < 0 || marks >= MARK_SETS) {
            return BAD;
        }
        return graph.changeMarks(n, marks);
    }

    public int put(int n, int column, int v) {
        boolean sound = graph.isNode(n) && column >= 0 && column < COLUMNS;
        if (!sound || v < -COLUMN_BOUND || v > COLUMN_BOUND) {
            return BAD_NUMBER;
        }
        return graph.changeColumn(n, column, v);
    }

    public int arc(int from, int to, int label, int weight) {
        boolean sound = graph.isNode(from) && graph.isNode(to) && label >= 0 && label < LABELS;
        if (!sound || weight < 0 || weight > MOST_WEIGHT) {
            return BAD;
        }
        return graph.addArc(from, to, label, weight);
    }

    public int drop(int arc) {
        if (!graph.isArc(arc)) {
            return BAD;
        }
        graph.removeArc(arc);
        return graph.arcs;
    }

    public int told(int what, int k) {
        if (what == 0) {
            return graph.nodes;
        }
        if (what == 1) {
            return graph.arcs;
        }
        if (what == 2) {
            return book.standing();
        }
        if (what >= 3 && what <= 9 && graph.isNode(k)) {
            return graph.ofNode(what, k);
        }
        if (what >= 10 && what <= 13 && graph.isArc(k)) {
            return graph.ofArc(what, k);
        }
        return BAD_NUMBER;
    }

    public int bare(int n) {
        if (!graph.isNode(n)) {
            return BAD;
        }
        return graph.strip(n);
    }

    public int question(int q) {
        if (q < 0 || q >= QUESTIONS) {
            // Such a call is the latest one all the same, and it had no fault.
            reader.faultPlace = NO;
            return BAD;
        }
        int fault = reader.read(tape, length, spare, false);
        length = 0;
        if (fault != 0) {
            return FAULT_BASE - fault;
        }
        Text before = questions[q];
        questions[q] = spare;
        spare = before;
        answeredAt[q] = NEVER;
        return questions[q].items;
    }

    public int rule() {
        int fault = reader.read(tape, length, spare, true);
        length = 0;
        if (fault != 0) {
            return FAULT_BASE - fault;
        }
        int label = spare.label;
        spare = book.replace(spare);
        graph.version++;
        return label;
    }

    public int forget(int label) {
        if (label < 0 || label >= RULES) {
            return BAD;
        }
        if (!book.has(label)) {
            return NO;
        }
        book.rules[label].stands = false;
        graph.version++;
        return 1;
    }

    public int place() {
        return reader.faultPlace;
    }

    public int ask(int q) {
        if (q < 0 || q >= QUESTIONS) {
            return BAD;
        }
        Text text = questions[q];
        if (!text.stands) {
            return NO;
        }
        if (book.settle() || text.work(graph.nodes) > MOST_WORK) {
            return LARGE;
        }
        if (answeredAt[q] != graph.version) {
            collector.collect(text, answers[q]);
            answeredAt[q] = graph.version;
        }
        return answers[q].rows;
    }

    public int answer(int q, int r, int i) {
        if (q < 0 || q >= QUESTIONS || answeredAt[q] != graph.version) {
            return BAD_ITEM;
        }
        Rows rows = answers[q];
        if (r < 0 || r >= rows.rows || i < 0 || i >= rows.width) {
            return BAD_ITEM;
        }
        return rows.cell(r, i);
    }

    public int leads(int from, int to, int label) {
        if (!graph.isNode(from) || !graph.isNode(to) || label < 0 || label >= LABELS + RULES) {
            return BAD;
        }
        if (label < LABELS) {
            return graph.countArcs(from, to, label);
        }
        if (book.settle()) {
            return LARGE;
        }
        return graph.reached(label, from) >> to & 1;
    }

    public int pairs(int label) {
        if (label < 0 || label >= RULES) {
            return BAD;
        }
        if (!book.has(label)) {
            return NO;
        }
        if (book.settle()) {
            return LARGE;
        }
        int pairs = 0;
        for (int n = 0; n < graph.nodes; n++) {
            pairs += Integer.bitCount(graph.reached(LABELS + label, n));
        }
        return pairs;
    }

    public int least(int q, int from, int to) {
        if (q < 0 || q >= QUESTIONS || !graph.isNode(from) || !graph.isNode(to)) {
            return BAD;
        }
        Text text = questions[q];
        if (!text.stands || text.ways == 0) {
            return NO;
        }
        if (book.settle()) {
            return LARGE;
        }
        Way way = text.way[0];
        finder.bringUpToDate(way);
        int arcs = way.turned ? way.arcsBetween(to, from) : way.arcsBetween(from, to);
        return arcs < 0 ? NO : arcs;
    }

    /** Nodes and arcs as they were told, and which nodes one arc of each label leads to. */
    static final class Graph {
        final int[] marks = new int[MOST_NODES];
        final int[] columns = new int[MOST_NODES * COLUMNS];
        final int[] from = new int[MOST_ARCS];
        final int[] to = new int[MOST_ARCS];
        final int[] label = new int[MOST_ARCS];
        final int[] weight = new int[MOST_ARCS];
        final int[] reach = new int[STEP_KINDS * MOST_NODES];
        int nodes = 0;
        int arcs = 0;
        int version = 0;

        Graph() {
            Arrays.fill(label, FREE);
        }

        boolean isNode(int n) {
            return n >= 0 && n < nodes;
        }

        boolean isArc(int k) {
            return k >= 0 && k < MOST_ARCS && label[k] != FREE;
        }

        int addNode(int itsMarks) {
            if (nodes >= MOST_NODES) {
                return FULL;
            }
            marks[nodes] = itsMarks;
            nodes++;
            version++;
            return nodes - 1;
        }

        int changeMarks(int n, int itsMarks) {
            int before = marks[n];
            marks[n] = itsMarks;
            version++;
            return before;
        }

        int changeColumn(int n, int column, int v) {
            int before = columns[n * COLUMNS + column];
            columns[n * COLUMNS + column] = v;
            version++;
            return before;
        }

        int addArc(int itsFrom, int itsTo, int itsLabel, int itsWeight) {
            for (int k = 0; k < MOST_ARCS; k++) {
                if (label[k] == FREE) {
                    from[k] = itsFrom;
                    to[k] = itsTo;
                    label[k] = itsLabel;
                    weight[k] = itsWeight;
                    arcs++;
                    version++;
                    return k;
                }
            }
            return FULL;
        }

        void removeArc(int k) {
            label[k] = FREE;
            arcs--;
            version++;
        }

        int strip(int n) {
            int gone = 0;
            for (int k = 0; k < MOST_ARCS; k++) {
                if (label[k] != FREE && (from[k] == n || to[k] == n)) {
                    removeArc(k);
                    gone++;
                }
            }
            marks[n] = 0;
            for (int column = 0; column < COLUMNS; column++) {
                columns[n * COLUMNS + column] = 0;
            }
            version++;
            return gone;
        }

        int ofNode(int what, int n) {
            if (what == 3) {
                return marks[n];
            }
            if (what <= 7) {
                return columns[n * COLUMNS + what - 4];
            }
            int count = 0;
            for (int k = 0; k < MOST_ARCS; k++) {
                if (label[k] != FREE && (what == 8 ? from[k] : to[k]) == n) {
                    count++;
                }
            }
            return count;
        }

        int nodesWith(int wanted) {
            int found = 0;
            for (int n = 0; n < nodes; n++) {
                if ((marks[n] & wanted) == wanted) {
                    found |= 1 << n;
                }
            }
            return found;
        }

        int ofArc(int what, int k) {
            switch (what) {
                case 10:
                    return from[k];
                case 11:
                    return to[k];
                case 12:
                    return label[k];
                default:
                    return weight[k];
            }
        }

        int countArcs(int itsFrom, int itsTo, int itsLabel) {
            int count = 0;
            for (int k = 0; k < MOST_ARCS; k++) {
                if (label[k] == itsLabel && from[k] == itsFrom && to[k] == itsTo) {
                    count++;
                }
            }
            return count;
        }

        /** The rules' arcs go too: they are worked out anew for a graph that changed. */
        void relate() {
            Arrays.fill(reach, 0);
            for (int k = 0; k < MOST_ARCS; k++) {
                if (label[k] != FREE) {
                    link(label[k], from[k], to[k]);
                    link(ANY_LABEL, from[k], to[k]);
                }
            }
        }

        void link(int itsLabel, int itsFrom, int itsTo) {
            reach[2 * itsLabel * MOST_NODES + itsFrom] |= 1 << itsTo;
            reach[(2 * itsLabel + 1) * MOST_NODES + itsTo] |= 1 << itsFrom;
        }

        int reached(int itsLabel, int n) {
            return reach[2 * itsLabel * MOST_NODES + n];
        }
    }

    /** The tokens of a text up to the first that is none, or to one more than a text may have. */
    static final class Tokens {
        final int[] kind = new int[MOST_TOKENS + 2];
        final int[] value = new int[MOST_TOKENS + 2];
        final int[] place = new int[MOST_TOKENS + 2];
        int count = 0;
        private byte[] tape = new byte[0];
        private int length = 0;

        void split(byte[] from, int itsLength) {
            tape = from;
            length = Math.min(itsLength, from.length);
            count = 0;
            int at = 0;
            for (int i = 0; i < TAPE_BYTES && at < length && count <= MOST_TOKENS; i++) {
                if (isBlank(tape[at])) {
                    at++;
                } else {
                    at = takeToken(at);
                }
            }
            kind[count] = END;
            value[count] = 0;
            place[count] = length;
        }

        /** What is none ends the text, because reading can't go beyond it. */
        private int takeToken(int at) {
            int end = at;
            while (end < length && (isLetter(tape[end]) || isDigit(tape[end]))) {
                end++;
            }
            int its = end > at ? nameKind(at, end) : signKind(at);
            kind[count] = its;
            place[count] = at;
            count++;
            if (its == NONE) {
                return length;
            }
            return end > at ? end : at + (its >= ARROW ? 2 : 1);
        }

        private static boolean isBlank(int c) {
            return c == 9 || c == 10 || c == 13 || c == 32;
        }

        private static boolean isLetter(int c) {
            return c >= 'a' && c <= 'z' || c >= 'A' && c <= 'Z';
        }

        private static boolean isDigit(int c) {
            return c >= '0' && c <= '9';
        }

        private int signKind(int at) {
            int c = tape[at];
            int next = at + 1 < length ? tape[at + 1] : 0;
            value[count] = 0;
            if (c == '-' && next == '>') {
                return ARROW;
            }
            if (c == '<' && next == '-') {
                return BACK_ARROW;
            }
            if (next == '=' && (c == '!' || c == '<' || c == '>')) {
                return c == '!' ? UNEQUAL : c == '<' ? AT_MOST : AT_LEAST;
            }
            // Bytes above 127 are below 0 here, and no sign is.
            return c > 0 && SIGNS.indexOf((char) c) >= 0 ? c : NONE;
        }

        private int nameKind(int at, int end) {
            value[count] = 0;
            if (isDigit(tape[at])) {
                return numberKind(at, end);
            }
            if (end - at == 1) {
                return letterKind((char) tape[at]);
            }
            if (end - at == 2 && isDigit(tape[at + 1])) {
                return numberedKind((char) tape[at], tape[at + 1] - '0');
            }
            return wordKind(at, end);
        }

        private int numberKind(int at, int end) {
            if (end - at > 4) {
                return NONE;
            }
            int number = 0;
            for (int i = at; i < end; i++) {
                if (!isDigit(tape[i])) {
                    return NONE;
                }
                number = number * 10 + tape[i] - '0';
            }
            value[count] = number;
            return NUMBER;
        }

        private int letterKind(char c) {
            int variable = VARIABLE_LETTERS.indexOf(c);
            if (variable >= 0) {
                value[count] = variable * NAMES_OF_LETTER;
                return VARIABLE;
            }
            int label = LABEL_LETTERS.indexOf(c);
            value[count] = label;
            return label >= 0 ? LABEL : NONE;
        }

        private int numberedKind(char c, int digit) {
            int variable = VARIABLE_LETTERS.indexOf(c);
            value[count] = digit;
            if (variable >= 0) {
                value[count] = variable * NAMES_OF_LETTER + 1 + digit;
                return VARIABLE;
            }
            if (c == 'm' && digit < LABELS) {
                return MARK;
            }
            return c == 'c' && digit < COLUMNS ? COLUMN : NONE;
        }

        private int wordKind(int at, int end) {
            int word = MATCH;
            int begin = 0;
            for (int i = 0; i < WORDS.length(); i++) {
                if (WORDS.charAt(i) == ' ') {
                    if (i - begin == end - at && isSame(at, end, begin)) {
                        return word;
                    }
                    word++;
                    begin = i + 1;
                }
            }
            return NONE;
        }

        private boolean isSame(int at, int end, int begin) {
            for (int i = at; i < end; i++) {
                if (WORDS.charAt(begin + i - at) != tape[i]) {
                    return false;
                }
            }
            return true;
        }
    }

    /** One way of a text: an automaton over its steps, and what it makes of the graph. */
    static final class Way {
        int from = 0;
        int to = 0;
        int leastSlot = NONE_YET;
        boolean turned = false;
        boolean ruled = false;
        int steps = 0;
        final int[] step = new int[MOST_STEPS];
        final int[] follow = new int[MOST_STEPS];
        long whole = 0;
        int level = 0;
        private long pending = NOTHING;
        private final long[] either = new long[MOST_OPEN + 2];
        private final long[] row = new long[MOST_OPEN + 2];
        final int[] arcs = new int[MOST_NODES * MOST_NODES];
        final int[] ahead = new int[MOST_NODES];
        final int[] behind = new int[MOST_NODES];
        int loops = 0;
        int measuredAt = NEVER;

        void open(boolean itsTurned) {
            turned = itsTurned;
            ruled = false;
            leastSlot = NONE_YET;
            steps = 0;
            level = 0;
            pending = NOTHING;
            either[0] = NOTHING;
            row[0] = NOTHING;
            measuredAt = NEVER;
        }

        void join(int frontSlot, int backSlot) {
            from = turned ? backSlot : frontSlot;
            to = turned ? frontSlot : backSlot;
        }

        void openRows() {
            settlePending();
            if (level + 1 < row.length) {
                level++;
                either[level] = NOTHING;
                row[level] = NOTHING;
            }
        }

        void closeRows() {
            nextRow();
            pending = either[level];
            if (level > 0) {
                level--;
            }
        }

        void endRows() {
            nextRow();
            whole = either[level];
        }

        void nextRow() {
            settlePending();
            long before = either[level];
            either[level] = before == NOTHING ? row[level] : before | row[level];
            row[level] = NOTHING;
        }

        void addStep(int label, int back) {
            settlePending();
            if (steps < MOST_STEPS) {
                step[steps] = 2 * label + back;
                follow[steps] = 0;
                pending = 1L << steps | 1L << steps + 16;
                ruled |= label >= LABELS && label < ANY_LABEL;
                steps++;
            }
        }

        void repeat(boolean mayLack, boolean mayCome) {
            if (mayCome) {
                lead(pending, pending);
            }
            if (mayLack) {
                pending |= MAY_LACK;
            }
        }

        /** What was read last comes behind its row; till then a sign of repeating may meet it. */
        private void settlePending() {
            long before = row[level];
            if (pending == NOTHING) {
                return;
            }
            if (before == NOTHING) {
                row[level] = pending;
            } else {
                lead(before, pending);
                long first = before & STEP_BITS;
                long last = pending >> 16 & STEP_BITS;
                if ((before & MAY_LACK) != 0) {
                    first |= pending & STEP_BITS;
                }
                if ((pending & MAY_LACK) != 0) {
                    last |= before >> 16 & STEP_BITS;
                }
                row[level] = first | last << 16 | before & pending & MAY_LACK;
            }
            pending = NOTHING;
        }

        private void lead(long one, long other) {
            for (int i = 0; i < steps; i++) {
                if ((one >> 16 + i & 1) != 0) {
                    follow[i] |= (int) (other & STEP_BITS);
                }
            }
        }

        void forgetArcs() {
            Arrays.fill(arcs, NONE_YET);
            Arrays.fill(ahead, 0);
            Arrays.fill(behind, 0);
            loops = 0;
        }

        /** Only the first arrival counts: levels come in their order, so it is the least. */
        void arrive(int source, int targets, int level) {
            int fresh = targets & ~ahead[source];
            for (int t = 0; t < MOST_NODES; t++) {
                if ((fresh >> t & 1) != 0) {
                    arcs[source * MOST_NODES + t] = level;
                    behind[t] |= 1 << source;
                }
            }
            ahead[source] |= fresh;
            loops |= fresh & 1 << source;
        }

        int arcsBetween(int source, int target) {
            return arcs[source * MOST_NODES + target];
        }
    }

    /** A question or a rule as it is kept: groups of ways and demands, operations, items. */
    static final class Text {
        boolean stands = false;
        int label = 0;
        int nodeSlots = 0;
        int ways = 0;
        final Way[] way = new Way[MOST_WAYS];
        int demands = 0;
        // A slot and the marks that it must have, and the nodes that have them.
        final int[] demand = new int[MOST_DEMANDS];
        final int[] suited = new int[MOST_DEMANDS];
        // Group 0 is what is matched; each absence is a group of its own.
        int groups = 0;
        final int[] own = new int[MOST_GROUPS];
        final int[] wayEnd = new int[MOST_GROUPS];
        final int[] demandEnd = new int[MOST_GROUPS];
        int codeEnd = 0;
        final int[] code = new int[MOST_TOKENS + 2];
        int condEnd = 0;
        int items = 0;
        final int[] itemKind = new int[MOST_ITEMS];
        final int[] itemEnd = new int[MOST_ITEMS];
        int limit = MOST_WORK;
        int giveFrom = 0;
        int giveTo = 0;

        Text() {
            for (int w = 0; w < MOST_WAYS; w++) {
                way[w] = new Way();
            }
        }

        void clear() {
            stands = false;
            nodeSlots = 0;
            ways = 0;
            demands = 0;
            groups = 0;
            codeEnd = 0;
            condEnd = 0;
            items = 0;
            limit = MOST_WORK;
            openGroup();
        }

        void openGroup() {
            if (groups < MOST_GROUPS) {
                own[groups] = 0;
                groups++;
                endGroup();
            }
        }

        /** What was read belongs to the group that came last. */
        void endGroup() {
            wayEnd[groups - 1] = ways;
            demandEnd[groups - 1] = demands;
        }

        void addDemand(int slot, int marks) {
            if (demands < MOST_DEMANDS) {
                demand[demands] = slot * MARK_SETS + marks;
                demands++;
            }
        }

        int emit(int op, int of) {
            if (codeEnd >= code.length) {
                return codeEnd - 1;
            }
            code[codeEnd] = op + of * OP_KINDS;
            codeEnd++;
            return codeEnd - 1;
        }

        void change(int at, int op, int of) {
            if (at >= 0 && at < codeEnd) {
                code[at] = op + of * OP_KINDS;
            }
        }

        void openItem(int kind) {
            if (items < MOST_ITEMS) {
                itemKind[items] = kind;
            }
        }

        void endItem() {
            if (items < MOST_ITEMS) {
                itemEnd[items] = codeEnd;
                items++;
            }
        }

        int itemBegin(int item) {
            return item == 0 ? condEnd : itemEnd[item - 1];
        }

        int wayOfLeast(int slot) {
            for (int w = 0; w < ways; w++) {
                if (way[w].leastSlot == slot) {
                    return w;
                }
            }
            return 0;
        }

        long work(int nodes) {
            long work = 1;
            for (int i = 0; i < nodeSlots; i++) {
                work *= nodes;
            }
            return work;
        }
    }

    /** Signs that wait for what is behind them, and how many of those that nest are open. */
    static final class Operators {
        int open = 0;
        int parens = 0;
        int brackets = 0;
        private Text text;
        private int top = 0;
        private final int[] rank = new int[MOST_WAITING];
        private final int[] op = new int[MOST_WAITING];
        private final int[] skip = new int[MOST_WAITING];

        Operators(Text first) {
            text = first;
        }

        void begin(Text into) {
            text = into;
            open = 0;
            parens = 0;
            brackets = 0;
            top = 0;
        }

        /** A sign between two: what binds as tightly and waits comes first. */
        void between(int itsRank, int itsOp) {
            unwind(itsRank);
            push(itsRank, itsOp);
            if (itsRank == RANK_AND || itsRank == RANK_OR) {
                skip[top - 1] = text.emit(itsOp, 0);
            }
        }

        void push(int itsRank, int itsOp) {
            if (top < MOST_WAITING) {
                rank[top] = itsRank;
                op[top] = itsOp;
                skip[top] = NONE_YET;
                top++;
            }
        }

        void openPrefix(int itsRank, int itsOp) {
            push(itsRank, itsOp);
            open++;
        }

        void openParen() {
            openPrefix(RANK_OPEN, OP_NUMBER);
            parens++;
        }

        void openBracket() {
            openPrefix(RANK_OPEN, OP_NUMBER);
            brackets++;
        }

        void closeParen() {
            unwind(RANK_PLUS);
            parens--;
            popOpen();
            unwind(RANK_MINUS);
        }

        void closeBracket() {
            unwind(RANK_OR);
            brackets--;
            popOpen();
            unwind(RANK_NOT);
        }

        private void popOpen() {
            if (top > 0) {
                top--;
            }
            open--;
        }

        void unwind(int lowest) {
            for (int i = 0; i < MOST_WAITING && top > 0 && rank[top - 1] >= lowest; i++) {
                top--;
                if (skip[top] != NONE_YET) {
                    text.change(skip[top], op[top], text.codeEnd);
                } else {
                    text.emit(op[top], 0);
                }
                if (rank[top] == RANK_NOT || rank[top] == RANK_MINUS) {
                    open--;
                }
            }
        }
    }

    /**
     * Takes the tokens of a text one by one; what is due next is its state. A token that ends a part
     * is passed on to the state behind that part.
     */
    static final class Reader {
        int faultPlace = NO;
        private final Tokens tokens = new Tokens();
        private final Operators operators;
        private final int[] slotOf = new int[NAMES];
        private Text text;
        private Way way;
        private boolean forRule = false;
        private int at = 0;
        private int state = TEXT_DUE;
        private int fault = 0;
        private int slots = 0;
        private int known = 0;
        private int leasts = 0;
        // What was known in front of the absence that is read, NONE_YET outside of one.
        private int knownOutside = NONE_YET;
        private int opener = 0;
        private int front = 0;
        private int slot = 0;
        private int marks = 0;
        private int side = LEFT;
        private boolean taken = false;

        Reader(Text first) {
            text = first;
            way = first.way[0];
            operators = new Operators(first);
        }

        int read(byte[] tape, int length, Text into, boolean rule) {
            begin(into, rule);
            tokens.split(tape, length);
            for (int i = 0; i <= tokens.count && fault == 0; i++) {
                at = i;
                taken = false;
                for (int turn = 0; turn < MOST_PASSES && !taken && fault == 0; turn++) {
                    taken = true;
                    take(tokens.kind[i]);
                }
                checkLast(tokens.kind[i]);
            }
            into.stands = fault == 0;
            return fault;
        }

        private void begin(Text into, boolean rule) {
            text = into;
            text.clear();
            operators.begin(into);
            way = into.way[0];
            forRule = rule;
            state = TEXT_DUE;
            fault = 0;
            faultPlace = NO;
            slots = 0;
            known = 0;
            leasts = 0;
            knownOutside = NONE_YET;
            front = NONE_YET;
            Arrays.fill(slotOf, NONE_YET);
        }

        private void passOn(int next) {
            state = next;
            taken = false;
        }

        private void fail(int kind) {
            failAt(kind, at);
        }

        private void failAt(int kind, int token) {
            fault = kind;
            faultPlace = tokens.place[token];
        }

        /** A token too many may have a lesser fault, too; that one is told then. */
        private void checkLast(int kind) {
            if (at == MOST_TOKENS && kind != END && (fault == 0 || fault > TOO_MUCH)) {
                fail(TOO_MUCH);
            }
        }

        private void take(int kind) {
            if (kind == NONE) {
                fail(NO_TOKEN);
            } else if (operators.open > MOST_OPEN) {
                fail(TOO_MUCH);
            } else if (state <= MATCH_DUE) {
                takeHead(kind);
            } else if (state <= MARK_DUE) {
                takeInNode(kind);
            } else if (state == AFTER_NODE) {
                takeAfterNode(kind);
            } else if (state <= WAY_END_DUE) {
                takeInWay(kind);
            } else if (state <= BACK_STEP_DUE) {
                takeStep(kind);
            } else if (state <= AFTER_STEP) {
                takeAfterStep(kind);
            } else if (state == FACT_DUE) {
                takeFact(kind);
            } else if (state == AFTER_FACT) {
                takeAfterFact(kind);
            } else if (state == UNIT_DUE) {
                takeUnit(kind);
            } else if (state <= COLUMN_DUE) {
                takeAfterVariable(kind);
            } else if (state == AFTER_UNIT) {
                takeAfterUnit(kind);
            } else if (state == ITEM_DUE) {
                takeItem(kind);
            } else {
                takeTail(kind);
            }
        }

        private void takeHead(int kind) {
            int value = tokens.value[at];
            if (state == TEXT_DUE && forRule && kind == RULE) {
                state = RULE_LABEL_DUE;
            } else if (state == RULE_LABEL_DUE && kind == LABEL && value >= LABELS) {
                text.label = value - LABELS;
                state = MATCH_DUE;
            } else if (kind == MATCH && (state == MATCH_DUE || state == TEXT_DUE && !forRule)) {
                state = NODE_DUE;
            } else {
                fail(CANT_STAND);
            }
        }

        private void takeInNode(int kind) {
            if (state == NODE_DUE && kind == '(') {
                opener = at;
                marks = 0;
                state = IN_NODE;
            } else if (state == IN_NODE && kind == VARIABLE) {
                nameNode(tokens.value[at]);
                state = IN_MARKS;
            } else if (state == MARK_DUE && kind == MARK) {
                marks |= 1 << tokens.value[at];
                state = IN_MARKS;
            } else if ((state == IN_NODE || state == IN_MARKS) && (kind == ':' || kind == ')')) {
                if (state == IN_NODE) {
                    tellNode(opener);
                }
                state = MARK_DUE;
                if (kind == ')') {
                    closeNode();
                }
            } else {
                fail(CANT_STAND);
            }
        }

        private void nameNode(int name) {
            slot = slotOf[name];
            if (slot == NONE_YET) {
                tellNode(at);
                slotOf[name] = slot;
            } else if ((leasts >> slot & 1) != 0) {
                fail(TOLD_BEFORE);
            } else if ((known >> slot & 1) == 0) {
                // An earlier absence told it: here it is told anew, but counts no second time.
                makeKnown();
            }
        }

        private void tellNode(int token) {
            takeSlot(token);
            if (fault == 0) {
                text.nodeSlots++;
                makeKnown();
            }
        }

        private void takeSlot(int token) {
            if (slots >= SLOTS) {
                slot = NONE_YET;
                failAt(TOO_MUCH, token);
            } else {
                slot = slots;
                slots++;
            }
        }

        private void makeKnown() {
            known |= 1 << slot;
            text.own[text.groups - 1] |= 1 << slot;
        }

        private void closeNode() {
            if (fault != 0) {
                return;
            }
            if (marks != 0) {
                text.addDemand(slot, marks);
            }
            if (front != NONE_YET) {
                way.join(front, slot);
            }
            text.endGroup();
            state = AFTER_NODE;
        }

        private void takeAfterNode(int kind) {
            if (kind == '-' || kind == BACK_ARROW) {
                openWay(kind == BACK_ARROW);
                return;
            }
            front = NONE_YET;
            if (knownOutside != NONE_YET) {
                text.emit(OP_ABSENT, text.groups - 1);
                known = knownOutside;
                knownOutside = NONE_YET;
                operators.unwind(RANK_NOT);
                passOn(AFTER_FACT);
            } else if (kind == ',') {
                state = NODE_DUE;
            } else if (kind == WHERE) {
                state = FACT_DUE;
            } else if (kind == GIVE) {
                openGive();
            } else {
                fail(CANT_STAND);
            }
        }

        private void openWay(boolean turned) {
            if (text.ways >= MOST_WAYS) {
                fail(TOO_MUCH);
            } else {
                way = text.way[text.ways];
                way.open(turned);
                text.ways++;
                front = slot;
                state = IN_WAY;
            }
        }

        private void takeInWay(int kind) {
            if (state == IN_WAY && kind == LEAST) {
                state = LEAST_DUE;
            } else if (state == LEAST_DUE && kind == VARIABLE) {
                nameLeast(tokens.value[at]);
                state = ROWS_DUE;
            } else if ((state == IN_WAY || state == ROWS_DUE) && kind == '[') {
                state = STEP_DUE;
            } else if (state == WAY_END_DUE && kind == (way.turned ? '-' : ARROW)) {
                state = NODE_DUE;
            } else {
                fail(CANT_STAND);
            }
        }

        private void nameLeast(int name) {
            if (slotOf[name] != NONE_YET) {
                fail(TOLD_BEFORE);
                return;
            }
            takeSlot(at);
            if (fault == 0) {
                slotOf[name] = slot;
                way.leastSlot = slot;
                leasts |= 1 << slot;
                known |= 1 << slot;
            }
        }

        private void takeStep(int kind) {
            boolean begins = state == STEP_DUE;
            boolean isLabel = kind == LABEL || kind == '_';
            if (begins && kind == '(') {
                way.openRows();
                operators.open++;
            } else if (!isLabel && !(begins && kind == '^')) {
                fail(CANT_STAND);
            } else if (way.steps >= MOST_STEPS) {
                fail(TOO_MUCH);
            } else if (!isLabel) {
                state = BACK_STEP_DUE;
            } else {
                addStep(kind == '_' ? ANY_LABEL : tokens.value[at]);
            }
        }

        private void addStep(int label) {
            if (knownOutside != NONE_YET && label >= LABELS && label < ANY_LABEL) {
                fail(NOT_ALLOWED);
            }
            way.addStep(label, state == BACK_STEP_DUE ? 1 : 0);
            state = AFTER_FIRST;
        }

        private void takeAfterStep(int kind) {
            boolean isRepeat = kind == '*' || kind == '+' || kind == '?';
            if (state == AFTER_FIRST && isRepeat) {
                way.repeat(kind != '+', kind != '?');
                state = AFTER_STEP;
            } else if (kind == '|') {
                way.nextRow();
                state = STEP_DUE;
            } else if (kind == ')' && way.level > 0) {
                way.closeRows();
                operators.open--;
                state = AFTER_FIRST;
            } else if (kind == ']' && way.level == 0) {
                way.endRows();
                state = WAY_END_DUE;
            } else {
                passOn(STEP_DUE);
            }
        }

        private void takeFact(int kind) {
            if (kind == NOT) {
                operators.openPrefix(RANK_NOT, OP_NOT);
            } else if (kind == '[') {
                operators.openBracket();
            } else if (kind == ABSENCE) {
                knownOutside = known;
                text.openGroup();
                state = NODE_DUE;
            } else {
                side = LEFT;
                passOn(UNIT_DUE);
            }
        }

        private void takeAfterFact(int kind) {
            if (kind == AND) {
                operators.between(RANK_AND, OP_SKIP_FALSE);
                state = FACT_DUE;
            } else if (kind == OR) {
                operators.between(RANK_OR, OP_SKIP_TRUE);
                state = FACT_DUE;
            } else if (kind == ']' && operators.brackets > 0) {
                operators.closeBracket();
                state = AFTER_FACT;
            } else if (kind == GIVE && operators.brackets == 0) {
                operators.unwind(RANK_OR);
                openGive();
            } else {
                fail(CANT_STAND);
            }
        }

        private void openGive() {
            text.condEnd = text.codeEnd;
            state = forRule ? GIVE_FROM_DUE : ITEM_DUE;
        }

        private void takeUnit(int kind) {
            if (kind == '-') {
                operators.openPrefix(RANK_MINUS, OP_MINUS);
                state = UNIT_DUE;
            } else if (kind == '(') {
                operators.openParen();
                state = UNIT_DUE;
            } else if (kind == NUMBER) {
                text.emit(OP_NUMBER, tokens.value[at]);
                operators.unwind(RANK_MINUS);
                state = AFTER_UNIT;
            } else if (kind == VARIABLE) {
                findVariable(tokens.value[at]);
                state = AFTER_VARIABLE;
            } else {
                fail(CANT_STAND);
            }
        }

        private void findVariable(int name) {
            slot = slotOf[name];
            if (slot == NONE_YET || (known >> slot & 1) == 0) {
                // One that no pattern told is a VARIABLE of the text all the same.
                fail(slot == NONE_YET && slots >= SLOTS ? TOO_MUCH : NOT_KNOWN);
            } else if ((leasts >> slot & 1) != 0) {
                text.emit(OP_LEAST, text.wayOfLeast(slot));
            } else {
                text.emit(OP_NODE, slot);
            }
        }

        private void takeAfterVariable(int kind) {
            if (state == AFTER_VARIABLE && kind == '.') {
                state = COLUMN_DUE;
            } else if (state == AFTER_VARIABLE) {
                operators.unwind(RANK_MINUS);
                passOn(AFTER_UNIT);
            } else if (kind != COLUMN) {
                fail(CANT_STAND);
            } else if ((leasts >> slot & 1) != 0) {
                fail(NOT_KNOWN);
            } else {
                text.change(text.codeEnd - 1, OP_COLUMN, slot * COLUMNS + tokens.value[at]);
                operators.unwind(RANK_MINUS);
                state = AFTER_UNIT;
            }
        }

        private void takeAfterUnit(int kind) {
            if (kind == '*') {
                operators.between(RANK_TIMES, OP_MULTIPLY);
                state = UNIT_DUE;
            } else if (kind == '+' || kind == '-') {
                operators.between(RANK_PLUS, kind == '+' ? OP_ADD : OP_SUBTRACT);
                state = UNIT_DUE;
            } else if (kind == ')' && operators.parens > 0) {
                operators.closeParen();
                state = AFTER_UNIT;
            } else if (operators.parens > 0) {
                fail(CANT_STAND);
            } else if (side == LEFT) {
                takeComparison(kind);
            } else if (side == RIGHT) {
                operators.unwind(RANK_NOT);
                passOn(AFTER_FACT);
            } else {
                operators.unwind(RANK_PLUS);
                text.endItem();
                passOn(AFTER_ITEM);
            }
        }

        private void takeComparison(int kind) {
            int op = comparison(kind);
            if (op == NONE_YET) {
                fail(CANT_STAND);
            } else {
                operators.between(RANK_COMPARE, op);
                side = RIGHT;
                state = UNIT_DUE;
            }
        }

        private static int comparison(int kind) {
            switch (kind) {
                case '=':
                    return OP_EQUAL;
                case UNEQUAL:
                    return OP_UNEQUAL;
                case '<':
                    return OP_BELOW;
                case AT_MOST:
                    return OP_AT_MOST;
                case '>':
                    return OP_ABOVE;
                case AT_LEAST:
                    return OP_AT_LEAST;
                default:
                    return NONE_YET;
            }
        }

        private void takeItem(int kind) {
            boolean isFold = kind >= COUNT && kind <= MAX;
            boolean isUnit = kind == '-' || kind == '(' || kind == NUMBER || kind == VARIABLE;
            if (!isFold && !isUnit) {
                fail(CANT_STAND);
            } else if (text.items >= MOST_ITEMS) {
                fail(TOO_MUCH);
            } else if (kind == COUNT) {
                text.openItem(COUNT);
                text.endItem();
                state = AFTER_ITEM;
            } else {
                side = IN_ITEM;
                text.openItem(isFold ? kind : VARIABLE);
                passOn(UNIT_DUE);
                taken = isFold;
            }
        }

        private void takeTail(int kind) {
            if (state == AFTER_ITEM && kind == ',') {
                state = ITEM_DUE;
            } else if (state == AFTER_ITEM && kind == LIMIT) {
                state = LIMIT_DUE;
            } else if (state == LIMIT_DUE && kind == NUMBER) {
                takeLimit(tokens.value[at]);
            } else if (state == GIVE_FROM_DUE && kind == VARIABLE) {
                text.giveFrom = givenSlot(tokens.value[at]);
                state = GIVE_COMMA_DUE;
            } else if (state == GIVE_COMMA_DUE && kind == ',') {
                state = GIVE_TO_DUE;
            } else if (state == GIVE_TO_DUE && kind == VARIABLE) {
                text.giveTo = givenSlot(tokens.value[at]);
                state = END_DUE;
            } else if (kind != END || state != AFTER_ITEM && state != END_DUE) {
                fail(CANT_STAND);
            }
        }

        private void takeLimit(int number) {
            if (number == 0) {
                fail(NOT_ALLOWED);
            }
            text.limit = number;
            state = END_DUE;
        }

        private int givenSlot(int name) {
            findVariable(name);
            if (fault == 0 && (leasts >> slot & 1) != 0) {
                fail(NOT_KNOWN);
            }
            return fault == 0 ? slot : 0;
        }
    }

    /** Goes through all nodes for the slots of one group that make its ways and demands fit. */
    static final class Search {
        private final Graph graph;
        private final int[] value;
        private final int[] order = new int[SLOTS];
        private final int[] before = new int[SLOTS];
        private final int[] left = new int[SLOTS];
        private Text text;
        private int firstWay = 0;
        private int endWay = 0;
        private int firstDemand = 0;
        private int endDemand = 0;
        private int count = 0;
        private int depth = NONE_YET;

        Search(Graph itsGraph, Text first, int[] values) {
            graph = itsGraph;
            text = first;
            value = values;
        }

        void begin(Text itsText, int group) {
            text = itsText;
            firstWay = group == 0 ? 0 : text.wayEnd[group - 1];
            endWay = text.wayEnd[group];
            firstDemand = group == 0 ? 0 : text.demandEnd[group - 1];
            endDemand = text.demandEnd[group];
            count = 0;
            int known = group == 0 ? 0 : text.own[0];
            for (int slot = 0; slot < SLOTS; slot++) {
                if ((text.own[group] >> slot & 1) != 0) {
                    order[count] = slot;
                    before[count] = known;
                    known |= 1 << slot;
                    count++;
                }
            }
            depth = 0;
            left[0] = count == 0 ? 0 : candidates(0);
        }

        boolean next() {
            for (int turn = 0; turn < MOST_TURNS && depth >= 0; turn++) {
                int rest = left[depth];
                if (rest == 0) {
                    depth--;
                } else {
                    left[depth] = rest & rest - 1;
                    value[order[depth]] = Integer.numberOfTrailingZeros(rest);
                    if (depth + 1 >= count) {
                        return true;
                    }
                    depth++;
                    left[depth] = candidates(depth);
                }
            }
            return false;
        }

        /** An absence may tell no node at all; then what is known already has to fit. */
        boolean fits(Text itsText, int group) {
            begin(itsText, group);
            return knownFit(itsText.own[0]) && (count == 0 || next());
        }

        private int candidates(int at) {
            int slot = order[at];
            int known = before[at];
            int mask = (1 << graph.nodes) - 1;
            for (int d = firstDemand; d < endDemand; d++) {
                if (text.demand[d] / MARK_SETS == slot) {
                    mask &= text.suited[d];
                }
            }
            for (int w = firstWay; w < endWay && mask != 0; w++) {
                Way way = text.way[w];
                if (way.from == slot && way.to == slot) {
                    mask &= way.loops;
                } else if (way.from == slot && (known >> way.to & 1) != 0) {
                    mask &= way.behind[value[way.to]];
                } else if (way.to == slot && (known >> way.from & 1) != 0) {
                    mask &= way.ahead[value[way.from]];
                }
            }
            return mask;
        }

        private boolean knownFit(int known) {
            for (int d = firstDemand; d < endDemand; d++) {
                int slot = text.demand[d] / MARK_SETS;
                if ((known >> slot & 1) != 0 && (text.suited[d] >> value[slot] & 1) == 0) {
                    return false;
                }
            }
            for (int w = firstWay; w < endWay; w++) {
                Way way = text.way[w];
                boolean both = (known >> way.from & known >> way.to & 1) != 0;
                if (both && (way.ahead[value[way.from]] >> value[way.to] & 1) == 0) {
                    return false;
                }
            }
            return true;
        }
    }

    /** Finds the rows of a text one after the other, and works out values in them. */
    static final class Finder {
        final int[] value = new int[SLOTS];
        private final Graph graph;
        private final Search matched;
        private final Search absent;
        private final int[] stack = new int[MOST_WAITING];
        private final int[] now = new int[MOST_STEPS];
        private final int[] next = new int[MOST_STEPS];
        private final int[] seen = new int[MOST_STEPS];
        private Text text;

        Finder(Graph itsGraph, Text first) {
            graph = itsGraph;
            text = first;
            matched = new Search(itsGraph, first, value);
            absent = new Search(itsGraph, first, value);
        }

        void start(Text itsText) {
            text = itsText;
            for (int w = 0; w < text.ways; w++) {
                bringUpToDate(text.way[w]);
            }
            for (int d = 0; d < text.demands; d++) {
                text.suited[d] = graph.nodesWith(text.demand[d] % MARK_SETS);
            }
            matched.begin(text, 0);
        }

        boolean nextRow() {
            for (int turn = 0; turn < MOST_TURNS && matched.next(); turn++) {
                if (text.condEnd == 0 || evaluate(0, text.condEnd) != 0) {
                    return true;
                }
            }
            return false;
        }

        /** The operations leave one value; those of skips go forward alone. */
        int evaluate(int begin, int end) {
            int top = 0;
            for (int at = begin; at < end; at++) {
                int op = text.code[at] % OP_KINDS;
                int of = text.code[at] / OP_KINDS;
                if (op <= OP_ABSENT) {
                    if (top < MOST_WAITING) {
                        boolean present = op == OP_ABSENT && absent.fits(text, of);
                        stack[top] = present ? 0 : load(op, of);
                        top++;
                    }
                } else if (top > 0 && op <= OP_NOT) {
                    stack[top - 1] = op == OP_MINUS ? -stack[top - 1] : 1 - stack[top - 1];
                } else if (top > 0 && op <= OP_SKIP_TRUE) {
                    if (stack[top - 1] != 0 == (op == OP_SKIP_TRUE)) {
                        at = Math.max(at, of - 1);
                    } else {
                        top--;
                    }
                } else if (top > 1) {
                    top--;
                    stack[top - 1] = operate(op, stack[top - 1], stack[top]);
                }
            }
            return top > 0 ? stack[top - 1] : 0;
        }

        private int load(int op, int of) {
            switch (op) {
                case OP_NODE:
                    return value[of];
                case OP_COLUMN:
                    return graph.columns[value[of / COLUMNS] * COLUMNS + of % COLUMNS];
                case OP_LEAST:
                    Way way = text.way[of];
                    return way.arcsBetween(value[way.from], value[way.to]);
                case OP_ABSENT:
                    return 1;
                default:
                    return of;
            }
        }

        private static int operate(int op, int a, int b) {
            switch (op) {
                case OP_ADD:
                    return bounded((long) a + b);
                case OP_SUBTRACT:
                    return bounded((long) a - b);
                case OP_MULTIPLY:
                    return bounded((long) a * b);
                case OP_EQUAL:
                    return a == b ? 1 : 0;
                case OP_UNEQUAL:
                    return a != b ? 1 : 0;
                case OP_BELOW:
                    return a < b ? 1 : 0;
                case OP_AT_MOST:
                    return a <= b ? 1 : 0;
                case OP_ABOVE:
                    return a > b ? 1 : 0;
                default:
                    return a >= b ? 1 : 0;
            }
        }

        static int bounded(long number) {
            if (number > VALUE_BOUND) {
                return VALUE_BOUND;
            }
            return number < -VALUE_BOUND ? -VALUE_BOUND : (int) number;
        }

        void bringUpToDate(Way way) {
            if (way.measuredAt == graph.version) {
                return;
            }
            way.measuredAt = graph.version;
            way.forgetArcs();
            for (int source = 0; source < graph.nodes; source++) {
                measureFrom(way, source);
            }
        }

        /** Level by level; each step meets each node once, so there are no more levels than that. */
        private void measureFrom(Way way, int source) {
            if ((way.whole & MAY_LACK) != 0) {
                way.arrive(source, 1 << source, 0);
            }
            boolean live = goFirst(way, source);
            int every = (1 << graph.nodes) - 1;
            int levels = MOST_NODES * MOST_STEPS;
            for (int level = 1; level <= levels && live && way.ahead[source] != every; level++) {
                int ends = 0;
                for (int p = 0; p < way.steps; p++) {
                    if ((way.whole >> 16 + p & 1) != 0) {
                        ends |= now[p];
                    }
                }
                way.arrive(source, ends, level);
                live = goOn(way);
            }
        }

        private boolean goFirst(Way way, int source) {
            int any = 0;
            for (int p = 0; p < way.steps; p++) {
                boolean first = (way.whole >> p & 1) != 0;
                now[p] = first ? graph.reach[way.step[p] * MOST_NODES + source] : 0;
                seen[p] = now[p];
                any |= now[p];
            }
            return any != 0;
        }

        private boolean goOn(Way way) {
            Arrays.fill(next, 0);
            for (int p = 0; p < way.steps; p++) {
                if (now[p] != 0) {
                    spread(way, now[p], way.follow[p]);
                }
            }
            int any = 0;
            for (int p = 0; p < way.steps; p++) {
                now[p] = next[p] & ~seen[p];
                seen[p] |= now[p];
                any |= now[p];
            }
            return any != 0;
        }

        private void spread(Way way, int nodes, int steps) {
            for (int p = 0; p < way.steps; p++) {
                if ((steps >> p & 1) != 0) {
                    int row = way.step[p] * MOST_NODES;
                    for (int n = 0; n < graph.nodes; n++) {
                        if ((nodes >> n & 1) != 0) {
                            next[p] |= graph.reach[row + n];
                        }
                    }
                }
            }
        }
    }

    /** Rows of values, in the order in which they came or sorted. */
    static final class Rows {
        int rows = 0;
        int width = 0;
        private int[] cells = new int[64];
        private int[] order = new int[0];
        private int[] other = new int[0];

        void clear(int itsWidth) {
            rows = 0;
            width = itsWidth;
        }

        /** Room at least doubles, so that all that was ever made stays small. */
        void reserve(int itsRows) {
            if (itsRows * width > cells.length) {
                cells = Arrays.copyOf(cells, Math.max(2 * cells.length, itsRows * width));
            }
        }

        void addRow() {
            reserve(rows + 1);
            rows++;
        }

        void setCell(int column, int v) {
            cells[(rows - 1) * width + column] = v;
        }

        int cell(int row, int column) {
            return cells[row * width + column];
        }

        int sorted(int place) {
            return order[place];
        }

        /** Goes by the columns of the mask alone, in their order. */
        void sort(int columns) {
            if (order.length < rows) {
                int room = Math.max(2 * order.length, rows);
                order = new int[room];
                other = new int[room];
            }
            for (int i = 0; i < rows; i++) {
                order[i] = i;
            }
            for (int run = 1; run < rows; run *= 2) {
                for (int low = 0; low < rows; low += 2 * run) {
                    merge(low, Math.min(low + run, rows), Math.min(low + 2 * run, rows), columns);
                }
                int[] swapped = order;
                order = other;
                other = swapped;
            }
        }

        private void merge(int low, int middle, int high, int columns) {
            int a = low;
            int b = middle;
            for (int i = low; i < high; i++) {
                if (b >= high || a < middle && compare(order[a], order[b], columns) <= 0) {
                    other[i] = order[a];
                    a++;
                } else {
                    other[i] = order[b];
                    b++;
                }
            }
        }

        int compare(int a, int b, int columns) {
            for (int c = 0; c < width; c++) {
                int one = cells[a * width + c];
                int two = cells[b * width + c];
                if (one != two && (columns >> c & 1) != 0) {
                    return one < two ? -1 : 1;
                }
            }
            return 0;
        }
    }

    /** Makes the answer of a question out of its rows. */
    static final class Collector {
        private static final int ALL_COLUMNS = -1;

        private final Finder finder;
        private final Rows raw = new Rows();
        private final Rows folded = new Rows();
        private final long[] total = new long[MOST_ITEMS];

        Collector(Finder itsFinder) {
            finder = itsFinder;
        }

        void collect(Text text, Rows answer) {
            gather(text);
            int keys = keysOf(text);
            raw.sort(keys);
            fold(text, keys);
            folded.sort(ALL_COLUMNS);
            answer.clear(text.items);
            int kept = Math.min(folded.rows, text.limit);
            answer.reserve(kept);
            for (int r = 0; r < kept; r++) {
                answer.addRow();
                for (int i = 0; i < text.items; i++) {
                    answer.setCell(i, folded.cell(folded.sorted(r), i));
                }
            }
        }

        private void gather(Text text) {
            raw.clear(text.items);
            finder.start(text);
            for (int turn = 0; turn < MOST_WORK && finder.nextRow(); turn++) {
                raw.addRow();
                for (int i = 0; i < text.items; i++) {
                    boolean counts = text.itemKind[i] == COUNT;
                    raw.setCell(i, counts ? 1 : finder.evaluate(text.itemBegin(i), text.itemEnd[i]));
                }
            }
        }

        private static int keysOf(Text text) {
            int keys = 0;
            for (int i = 0; i < text.items; i++) {
                if (text.itemKind[i] == VARIABLE) {
                    keys |= 1 << i;
                }
            }
            return keys;
        }

        private void fold(Text text, int keys) {
            folded.clear(text.items);
            for (int r = 0; r < raw.rows; r++) {
                int row = raw.sorted(r);
                if (r == 0 || raw.compare(raw.sorted(r - 1), row, keys) != 0) {
                    folded.addRow();
                    for (int i = 0; i < text.items; i++) {
                        total[i] = raw.cell(row, i);
                    }
                } else {
                    addTo(text, row);
                }
                for (int i = 0; i < text.items; i++) {
                    folded.setCell(i, Finder.bounded(total[i]));
                }
            }
        }

        private void addTo(Text text, int row) {
            for (int i = 0; i < text.items; i++) {
                int v = raw.cell(row, i);
                int kind = text.itemKind[i];
                if (kind == COUNT || kind == SUM) {
                    total[i] += v;
                } else if (kind == MIN) {
                    total[i] = Math.min(total[i], v);
                } else if (kind == MAX) {
                    total[i] = Math.max(total[i], v);
                }
            }
        }
    }

    /** The rules, and the arcs that they have when no round gives anything new. */
    static final class RuleBook {
        final Text[] rules = new Text[RULES];
        private final Graph graph;
        private final Finder finder;
        private final int[] gained = new int[RULES * MOST_NODES];
        private int settledAt = NEVER;
        private boolean large = false;

        RuleBook(Graph itsGraph, Finder itsFinder) {
            graph = itsGraph;
            finder = itsFinder;
            for (int label = 0; label < RULES; label++) {
                rules[label] = new Text();
            }
        }

        boolean has(int label) {
            return rules[label].stands;
        }

        Text replace(Text text) {
            Text before = rules[text.label];
            rules[text.label] = text;
            return before;
        }

        int standing() {
            int count = 0;
            for (int label = 0; label < RULES; label++) {
                if (rules[label].stands) {
                    count++;
                }
            }
            return count;
        }

        /** True when the rules are too much work. */
        boolean settle() {
            if (settledAt == graph.version) {
                return large;
            }
            settledAt = graph.version;
            graph.relate();
            long work = workOfAll();
            // Each round but the last gives one pair or more.
            int rounds = RULES * MOST_NODES * MOST_NODES + 1;
            boolean news = standing() > 0;
            large = isOneLarge();
            for (int round = 1; round <= rounds && news && !large; round++) {
                large = work * round > MOST_RULE_WORK;
                if (!large) {
                    news = goRound();
                }
            }
            return large;
        }

        private boolean isOneLarge() {
            for (int label = 0; label < RULES; label++) {
                if (rules[label].stands && rules[label].work(graph.nodes) > MOST_WORK) {
                    return true;
                }
            }
            return false;
        }

        private long workOfAll() {
            long work = 0;
            for (int label = 0; label < RULES; label++) {
                if (rules[label].stands) {
                    work += rules[label].work(graph.nodes);
                }
            }
            return work;
        }

        private boolean goRound() {
            Arrays.fill(gained, 0);
            for (int label = 0; label < RULES; label++) {
                Text text = rules[label];
                if (text.stands) {
                    forgetRuled(text);
                    finder.start(text);
                    for (int turn = 0; turn < MOST_WORK && finder.nextRow(); turn++) {
                        int from = finder.value[text.giveFrom];
                        gained[label * MOST_NODES + from] |= 1 << finder.value[text.giveTo];
                    }
                }
            }
            boolean news = false;
            for (int label = 0; label < RULES; label++) {
                for (int n = 0; n < graph.nodes; n++) {
                    int fresh = gained[label * MOST_NODES + n] & ~graph.reached(LABELS + label, n);
                    news |= fresh != 0;
                    linkAll(LABELS + label, n, fresh);
                }
            }
            return news;
        }

        /** The rules' arcs became more since the round before. */
        private static void forgetRuled(Text text) {
            for (int w = 0; w < text.ways; w++) {
                if (text.way[w].ruled) {
                    text.way[w].measuredAt = NEVER;
                }
            }
        }

        private void linkAll(int label, int from, int targets) {
            for (int t = 0; t < graph.nodes; t++) {
                if ((targets >> t & 1) != 0) {
                    graph.link(label, from, t);
                }
            }
        }
    }
}
