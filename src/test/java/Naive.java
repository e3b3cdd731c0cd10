import java.util.ArrayList;
import java.util.Collections;
import java.util.LinkedHashMap;
import java.util.LinkedHashSet;
import java.util.List;
import java.util.Map;
import java.util.Set;
import java.util.TreeMap;

/**
 * The document once more, in the plainest form and by other means than the class: a parser that calls
 * itself, ways as tables of least numbers, all nodes tried for all variables.
 */
final class Naive {
    static final int BAD = -1;
    static final int NO = -2;
    static final int FULL = -3;
    static final int LARGE = -4;
    static final int FAR = 1 << 20;

    static final class Fault extends RuntimeException {
        private static final long serialVersionUID = 1L;
        final int kind;
        final int place;

        Fault(int kind, int place) {
            this.kind = kind;
            this.place = place;
        }
    }

    record Tok(String kind, String text, int place) { }

    record NodeP(String name, int marks) { }

    record WayP(boolean turned, String least, Rows rows) { }

    record Pattern(List<NodeP> nodes, List<WayP> ways) { }

    interface Rows {
        int[][] table(Naive graph);
    }

    interface Exp {
        long of(Naive graph, Map<String, Integer> row);
    }

    interface Cond {
        boolean holds(Naive graph, Map<String, Integer> row);
    }

    record Item(String fold, Exp exp) { }

    static final class Parsed {
        int label = -1;
        List<Pattern> patterns = new ArrayList<>();
        Cond cond = (g, r) -> true;
        List<Item> items = new ArrayList<>();
        int limit = Integer.MAX_VALUE;
        String from;
        String to;
        Set<String> nodeNames = new LinkedHashSet<>();
        WayP firstWay;
    }

    final List<int[]> nodes = new ArrayList<>();
    final TreeMap<Integer, int[]> arcs = new TreeMap<>();
    String tape = "";
    final Parsed[] questions = new Parsed[4];
    final Parsed[] rules = new Parsed[4];
    int faultPlace = NO;
    boolean[][][] ruleArcs = new boolean[4][16][16];
    final List<List<List<Integer>>> answers = new ArrayList<>();
    private boolean settled = false;
    private boolean rulesLarge = false;

    Naive() {
        for (int i = 0; i < 4; i++) {
            answers.add(null);
        }
    }

    private void changed() {
        for (int i = 0; i < 4; i++) {
            answers.set(i, null);
        }
        settled = false;
    }

    private boolean isNode(int n) {
        return n >= 0 && n < nodes.size();
    }

    int feed(int a, int b, int c, int d, int e) {
        if (tape.length() + 20 > 1500) {
            return FULL;
        }
        StringBuilder more = new StringBuilder(tape);
        for (int v : new int[] {a, b, c, d, e}) {
            more.append((char) (v >>> 24)).append((char) (v >>> 16 & 255));
            more.append((char) (v >>> 8 & 255)).append((char) (v & 255));
        }
        tape = more.toString();
        return tape.length();
    }

    int cut(int n) {
        if (n < 0 || n > tape.length()) {
            return BAD;
        }
        tape = tape.substring(0, tape.length() - n);
        return tape.length();
    }

    int node(int marks) {
        if (marks < 0 || marks > 255) {
            return BAD;
        }
        if (nodes.size() == 16) {
            return FULL;
        }
        nodes.add(new int[] {marks, 0, 0, 0, 0});
        changed();
        return nodes.size() - 1;
    }

    int mark(int n, int marks) {
        if (!isNode(n) || marks < 0 || marks > 255) {
            return BAD;
        }
        int before = nodes.get(n)[0];
        nodes.get(n)[0] = marks;
        changed();
        return before;
    }

    int put(int n, int column, int v) {
        if (!isNode(n) || column < 0 || column > 3 || v < -9999 || v > 9999) {
            return 10000;
        }
        int before = nodes.get(n)[1 + column];
        nodes.get(n)[1 + column] = v;
        changed();
        return before;
    }

    int arc(int from, int to, int label, int weight) {
        if (!isNode(from) || !isNode(to) || label < 0 || label > 7 || weight < 0 || weight > 99) {
            return BAD;
        }
        if (arcs.size() == 100) {
            return FULL;
        }
        int k = 0;
        while (arcs.containsKey(k)) {
            k++;
        }
        arcs.put(k, new int[] {from, to, label, weight});
        changed();
        return k;
    }

    int drop(int arc) {
        if (arcs.remove(arc) == null) {
            return BAD;
        }
        changed();
        return arcs.size();
    }

    int told(int what, int k) {
        if (what >= 0 && what <= 2) {
            int count = 0;
            for (Parsed rule : rules) {
                count += rule == null ? 0 : 1;
            }
            return what == 0 ? nodes.size() : what == 1 ? arcs.size() : count;
        }
        if (what >= 3 && what <= 7 && isNode(k)) {
            return nodes.get(k)[what - 3];
        }
        if ((what == 8 || what == 9) && isNode(k)) {
            return (int) arcs.values().stream().filter(a -> a[what - 8] == k).count();
        }
        if (what >= 10 && what <= 13 && arcs.containsKey(k)) {
            return arcs.get(k)[what - 10];
        }
        return 10000;
    }

    int bare(int n) {
        if (!isNode(n)) {
            return BAD;
        }
        int before = arcs.size();
        arcs.values().removeIf(a -> a[0] == n || a[1] == n);
        nodes.set(n, new int[5]);
        changed();
        return before - arcs.size();
    }

    int question(int q) {
        if (q < 0 || q > 3) {
            faultPlace = NO;
            return BAD;
        }
        String text = tape;
        tape = "";
        try {
            questions[q] = new Parser(text).question();
            answers.set(q, null);
            faultPlace = NO;
            return questions[q].items.size();
        } catch (Fault fault) {
            faultPlace = fault.place;
            return -10 - fault.kind;
        }
    }

    int rule() {
        String text = tape;
        tape = "";
        try {
            Parsed rule = new Parser(text).rule();
            rules[rule.label] = rule;
            changed();
            faultPlace = NO;
            return rule.label;
        } catch (Fault fault) {
            faultPlace = fault.place;
            return -10 - fault.kind;
        }
    }

    int forget(int label) {
        if (label < 0 || label > 3) {
            return BAD;
        }
        if (rules[label] == null) {
            return NO;
        }
        rules[label] = null;
        changed();
        return 1;
    }

    int place() {
        return faultPlace;
    }

    private double work(Parsed text) {
        return Math.pow(nodes.size(), text.nodeNames.size());
    }

    private boolean settle() {
        if (settled) {
            return rulesLarge;
        }
        settled = true;
        ruleArcs = new boolean[4][16][16];
        double all = 0;
        for (Parsed rule : rules) {
            if (rule != null) {
                all += work(rule);
                if (work(rule) > 20000) {
                    rulesLarge = true;
                    return true;
                }
            }
        }
        rulesLarge = false;
        int rounds = 0;
        boolean news = all > 0;
        while (news && !rulesLarge) {
            rounds++;
            rulesLarge = all * rounds > 1000000;
            news = !rulesLarge && round();
        }
        return rulesLarge;
    }

    private boolean round() {
        boolean[][][] after = new boolean[4][16][16];
        boolean news = false;
        for (int label = 0; label < 4; label++) {
            if (rules[label] != null) {
                for (Map<String, Integer> row : rows(rules[label])) {
                    after[label][row.get(rules[label].from)][row.get(rules[label].to)] = true;
                }
            }
        }
        for (int label = 0; label < 4; label++) {
            for (int a = 0; a < 16; a++) {
                for (int b = 0; b < 16; b++) {
                    news |= after[label][a][b] && !ruleArcs[label][a][b];
                    ruleArcs[label][a][b] |= after[label][a][b];
                }
            }
        }
        return news;
    }

    private static List<String> namesOf(List<Pattern> patterns) {
        Set<String> names = new LinkedHashSet<>();
        for (Pattern p : patterns) {
            for (NodeP n : p.nodes) {
                names.add(n.name);
            }
        }
        return new ArrayList<>(names);
    }

    private List<Map<String, Integer>> rows(Parsed text) {
        List<Map<String, Integer>> found = new ArrayList<>();
        Map<Rows, int[][]> tables = new LinkedHashMap<>();
        for (Pattern p : text.patterns) {
            for (WayP w : p.ways) {
                tables.put(w.rows, w.rows.table(this));
            }
        }
        tryAll(namesOf(text.patterns), 0, new LinkedHashMap<>(), row -> {
            for (Pattern p : text.patterns) {
                if (!fits(p, row, tables)) {
                    return false;
                }
            }
            if (text.cond.holds(this, row)) {
                found.add(new LinkedHashMap<>(row));
            }
            return false;
        });
        return found;
    }

    interface Visit {
        boolean stop(Map<String, Integer> row);
    }

    private boolean tryAll(List<String> names, int at, Map<String, Integer> row, Visit visit) {
        if (at == names.size()) {
            return visit.stop(row);
        }
        for (int n = 0; n < nodes.size(); n++) {
            row.put(names.get(at), n);
            if (tryAll(names, at + 1, row, visit)) {
                row.remove(names.get(at));
                return true;
            }
        }
        row.remove(names.get(at));
        return false;
    }

    boolean absent(Pattern p, Map<String, Integer> row) {
        List<String> own = namesOf(List.of(p));
        own.removeAll(row.keySet());
        Map<Rows, int[][]> tables = new LinkedHashMap<>();
        for (WayP w : p.ways) {
            tables.put(w.rows, w.rows.table(this));
        }
        return !tryAll(own, 0, new LinkedHashMap<>(row), r -> fits(p, r, tables));
    }

    private boolean fits(Pattern p, Map<String, Integer> row, Map<Rows, int[][]> tables) {
        for (NodeP n : p.nodes) {
            if ((nodes.get(row.get(n.name))[0] & n.marks) != n.marks) {
                return false;
            }
        }
        for (int i = 0; i < p.ways.size(); i++) {
            WayP w = p.ways.get(i);
            int front = row.get(p.nodes.get(i).name);
            int behind = row.get(p.nodes.get(i + 1).name);
            int[][] table = tables.get(w.rows);
            int arcs = w.turned ? table[behind][front] : table[front][behind];
            if (arcs >= FAR) {
                return false;
            }
            if (w.least != null) {
                row.put(w.least, arcs);
            }
        }
        return true;
    }

    int ask(int q) {
        if (q < 0 || q > 3) {
            return BAD;
        }
        if (questions[q] == null) {
            return NO;
        }
        if (settle() || work(questions[q]) > 20000) {
            return LARGE;
        }
        Parsed text = questions[q];
        Map<List<Integer>, List<List<Integer>>> groups = new LinkedHashMap<>();
        for (Map<String, Integer> row : rows(text)) {
            List<Integer> values = new ArrayList<>();
            List<Integer> key = new ArrayList<>();
            for (Item item : text.items) {
                int v = item.exp == null ? 0 : (int) item.exp.of(this, row);
                values.add(v);
                if (item.fold == null) {
                    key.add(v);
                }
            }
            groups.computeIfAbsent(key, k -> new ArrayList<>()).add(values);
        }
        List<List<Integer>> answer = new ArrayList<>();
        for (List<List<Integer>> group : groups.values()) {
            List<Integer> line = new ArrayList<>();
            for (int i = 0; i < text.items.size(); i++) {
                line.add(folded(text.items.get(i).fold, group, i));
            }
            answer.add(line);
        }
        answer.sort((a, b) -> {
            for (int i = 0; i < a.size(); i++) {
                if (!a.get(i).equals(b.get(i))) {
                    return Integer.compare(a.get(i), b.get(i));
                }
            }
            return 0;
        });
        answers.set(q, answer.subList(0, Math.min(answer.size(), text.limit)));
        return answers.get(q).size();
    }

    private static int folded(String fold, List<List<Integer>> group, int i) {
        List<Integer> column = new ArrayList<>();
        long sum = 0;
        for (List<Integer> line : group) {
            column.add(line.get(i));
            sum += line.get(i);
        }
        if (fold == null) {
            return column.get(0);
        }
        return switch (fold) {
            case "count" -> group.size();
            case "min" -> Collections.min(column);
            case "max" -> Collections.max(column);
            default -> (int) bounded(sum);
        };
    }

    static long bounded(long v) {
        return Math.max(-1000000000L, Math.min(1000000000L, v));
    }

    int answer(int q, int r, int i) {
        if (q < 0 || q > 3 || answers.get(q) == null || r < 0 || r >= answers.get(q).size()) {
            return 2000000000;
        }
        List<Integer> line = answers.get(q).get(r);
        return i < 0 || i >= line.size() ? 2000000000 : line.get(i);
    }

    int leads(int from, int to, int label) {
        if (!isNode(from) || !isNode(to) || label < 0 || label > 11) {
            return BAD;
        }
        if (label < 8) {
            return (int) arcs.values().stream()
                    .filter(a -> a[0] == from && a[1] == to && a[2] == label).count();
        }
        return settle() ? LARGE : ruleArcs[label - 8][from][to] ? 1 : 0;
    }

    int pairs(int label) {
        if (label < 0 || label > 3) {
            return BAD;
        }
        if (rules[label] == null) {
            return NO;
        }
        if (settle()) {
            return LARGE;
        }
        int count = 0;
        for (boolean[] row : ruleArcs[label]) {
            for (boolean one : row) {
                count += one ? 1 : 0;
            }
        }
        return count;
    }

    int least(int q, int from, int to) {
        if (q < 0 || q > 3 || !isNode(from) || !isNode(to)) {
            return BAD;
        }
        if (questions[q] == null || questions[q].firstWay == null) {
            return NO;
        }
        if (settle()) {
            return LARGE;
        }
        WayP way = questions[q].firstWay;
        int[][] table = way.rows.table(this);
        int arcs = way.turned ? table[to][from] : table[from][to];
        return arcs >= FAR ? NO : arcs;
    }

    // ---- ways as tables of least numbers of arcs

    private int[][] far() {
        int[][] t = new int[nodes.size()][nodes.size()];
        for (int[] row : t) {
            java.util.Arrays.fill(row, FAR);
        }
        return t;
    }

    int[][] single(String label, boolean back) {
        int[][] t = far();
        boolean any = label.equals("_");
        int number = "abcdefghABCD".indexOf(label);
        for (int[] a : arcs.values()) {
            if (any || a[2] == number) {
                t[back ? a[1] : a[0]][back ? a[0] : a[1]] = 1;
            }
        }
        for (int a = 0; a < nodes.size() && !any && number >= 8; a++) {
            for (int b = 0; b < nodes.size(); b++) {
                if (ruleArcs[number - 8][a][b]) {
                    t[back ? b : a][back ? a : b] = 1;
                }
            }
        }
        return t;
    }

    int[][] inTurn(int[][] one, int[][] two) {
        int[][] t = far();
        for (int a = 0; a < t.length; a++) {
            for (int b = 0; b < t.length; b++) {
                for (int c = 0; c < t.length; c++) {
                    t[a][c] = Math.min(t[a][c], one[a][b] + two[b][c]);
                }
            }
        }
        return t;
    }

    int[][] lesser(int[][] one, int[][] two) {
        int[][] t = far();
        for (int a = 0; a < t.length; a++) {
            for (int b = 0; b < t.length; b++) {
                t[a][b] = Math.min(one[a][b], two[a][b]);
            }
        }
        return t;
    }

    int[][] empty() {
        int[][] t = far();
        for (int a = 0; a < t.length; a++) {
            t[a][a] = 0;
        }
        return t;
    }

    int[][] many(int[][] one) {
        int[][] t = one;
        for (int i = 0; i < 16; i++) {
            t = lesser(t, inTurn(t, one));
        }
        return t;
    }

    // ---- reading

    static final class Parser {
        private static final Set<String> WORDS = Set.of("match", "where", "give", "limit", "and", "or",
                "not", "no", "least", "count", "sum", "min", "max", "rule");
        private final List<Tok> toks = new ArrayList<>();
        private final Parsed text = new Parsed();
        private final Set<String> toldNodes = new LinkedHashSet<>();
        private final Set<String> toldLeasts = new LinkedHashSet<>();
        private Set<String> known = new LinkedHashSet<>();
        private int nameless = 0;
        private int ways = 0;
        private int steps = 0;
        private boolean inNo = false;
        private int at = 0;

        Parser(String tape) {
            int i = 0;
            while (i < tape.length()) {
                char c = tape.charAt(i);
                int j = i;
                while (j < tape.length() && String.valueOf(tape.charAt(j)).matches("[A-Za-z0-9]")) {
                    j++;
                }
                if ("\t\n\r ".indexOf(c) >= 0) {
                    i++;
                } else if (j > i) {
                    toks.add(name(tape.substring(i, j), i));
                    i = j;
                } else {
                    String two = tape.substring(i, Math.min(i + 2, tape.length()));
                    if (List.of("->", "<-", "!=", "<=", ">=").contains(two)) {
                        toks.add(new Tok(two, two, i));
                        i += 2;
                    } else {
                        String one = String.valueOf(c);
                        boolean sign = List.of("()[]-:,._^*+?|=<>".split("")).contains(one);
                        toks.add(new Tok(sign ? one : "none", one, i));
                        i++;
                    }
                }
            }
            toks.add(new Tok("end", "", tape.length()));
        }

        private static Tok name(String s, int place) {
            String kind = "none";
            if (WORDS.contains(s)) {
                kind = s;
            } else if (s.matches("[xyzuvw][0-9]?")) {
                kind = "VARIABLE";
            } else if (s.matches("m[0-7]")) {
                kind = "MARK";
            } else if (s.matches("c[0-3]")) {
                kind = "COLUMN";
            } else if (s.matches("[a-hA-D]")) {
                kind = "LABEL";
            } else if (s.matches("[0-9]{1,4}")) {
                kind = "NUMBER";
            }
            return new Tok(kind, s, place);
        }

        private Tok peek() {
            Tok t = toks.get(at);
            if (t.kind.equals("none")) {
                throw new Fault(1, t.place);
            }
            return t;
        }

        private boolean is(String kind) {
            return peek().kind.equals(kind);
        }

        private Fault wrong() {
            return new Fault(2, peek().place);
        }

        private Tok take(String kind) {
            if (!is(kind)) {
                throw wrong();
            }
            Tok t = peek();
            if (kind.equals("end")) {
                return t;
            }
            if (at >= 200) {
                throw new Fault(3, t.place);
            }
            at++;
            return t;
        }

        private boolean took(String kind) {
            if (is(kind)) {
                take(kind);
                return true;
            }
            return false;
        }

        private int deeper(int open) {
            if (open == 10) {
                throw new Fault(3, peek().place);
            }
            return open + 1;
        }

        private int names() {
            return toldNodes.size() + toldLeasts.size() + nameless;
        }

        Parsed question() {
            take("match");
            body();
            take("give");
            do {
                item();
            } while (took(","));
            if (took("limit")) {
                Tok n = take("NUMBER");
                text.limit = Integer.parseInt(n.text);
                if (text.limit == 0) {
                    throw new Fault(6, n.place);
                }
            }
            take("end");
            return text;
        }

        Parsed rule() {
            take("rule");
            if (is("LABEL") && "ABCD".indexOf(peek().text) < 0) {
                throw wrong();
            }
            text.label = "ABCD".indexOf(take("LABEL").text);
            take("match");
            body();
            take("give");
            text.from = given();
            take(",");
            text.to = given();
            take("end");
            return text;
        }

        private String given() {
            Tok t = variable();
            if (toldLeasts.contains(t.text)) {
                throw new Fault(5, t.place);
            }
            return t.text;
        }

        private Tok variable() {
            Tok t = take("VARIABLE");
            boolean fresh = !toldNodes.contains(t.text) && !toldLeasts.contains(t.text);
            if (fresh && names() >= 8) {
                throw new Fault(3, t.place);
            }
            if (!known.contains(t.text)) {
                throw new Fault(5, t.place);
            }
            return t;
        }

        private void body() {
            do {
                text.patterns.add(pattern(0));
            } while (took(","));
            if (took("where")) {
                text.cond = cond(0);
            }
        }

        private Pattern pattern(int open) {
            List<NodeP> nodes = new ArrayList<>();
            List<WayP> between = new ArrayList<>();
            nodes.add(node());
            while (is("-") || is("<-")) {
                between.add(way(open));
                nodes.add(node());
            }
            return new Pattern(nodes, between);
        }

        private NodeP node() {
            Tok opener = take("(");
            String name;
            if (is("VARIABLE")) {
                Tok t = take("VARIABLE");
                name = t.text;
                boolean told = toldNodes.contains(name);
                if (!told && !toldLeasts.contains(name) && names() >= 8) {
                    throw new Fault(3, t.place);
                }
                if (toldLeasts.contains(name)) {
                    throw new Fault(4, t.place);
                }
                toldNodes.add(name);
                known.add(name);
            } else {
                if (!is(":") && !is(")")) {
                    throw wrong();
                }
                if (names() >= 8) {
                    throw new Fault(3, opener.place);
                }
                nameless++;
                name = "nameless " + nameless;
            }
            text.nodeNames.add(name);
            int marks = 0;
            while (took(":")) {
                marks |= 1 << take("MARK").text.charAt(1) - '0';
            }
            take(")");
            return new NodeP(name, marks);
        }

        private WayP way(int open) {
            boolean turned = is("<-");
            Tok begin = take(turned ? "<-" : "-");
            ways++;
            if (ways > 10) {
                throw new Fault(3, begin.place);
            }
            String least = null;
            if (took("least")) {
                Tok t = take("VARIABLE");
                least = t.text;
                if (toldNodes.contains(least) || toldLeasts.contains(least)) {
                    throw new Fault(4, t.place);
                }
                if (names() >= 8) {
                    throw new Fault(3, t.place);
                }
                toldLeasts.add(least);
                known.add(least);
            }
            take("[");
            steps = 0;
            Rows rows = rows(open);
            take("]");
            take(turned ? "-" : "->");
            WayP way = new WayP(turned, least, rows);
            if (text.firstWay == null) {
                text.firstWay = way;
            }
            return way;
        }

        private Rows rows(int open) {
            Rows all = row(open);
            while (took("|")) {
                Rows one = all;
                Rows two = row(open);
                all = g -> g.lesser(one.table(g), two.table(g));
            }
            return all;
        }

        private Rows row(int open) {
            Rows all = step(open);
            while (is("LABEL") || is("_") || is("^") || is("(")) {
                Rows one = all;
                Rows two = step(open);
                all = g -> g.inTurn(one.table(g), two.table(g));
            }
            return all;
        }

        private Rows step(int open) {
            Rows one = first(open);
            if (took("*")) {
                return g -> g.lesser(g.empty(), g.many(one.table(g)));
            }
            if (took("+")) {
                return g -> g.many(one.table(g));
            }
            if (took("?")) {
                return g -> g.lesser(g.empty(), one.table(g));
            }
            return one;
        }

        private Rows first(int open) {
            if (took("(")) {
                Rows inner = rows(deeper(open));
                take(")");
                return inner;
            }
            boolean back = is("^");
            Tok begin = peek();
            if (back) {
                take("^");
            } else if (!is("LABEL") && !is("_")) {
                throw wrong();
            } else {
                take(peek().kind);
            }
            steps++;
            if (steps > 16) {
                throw new Fault(3, begin.place);
            }
            Tok label = begin;
            if (back) {
                label = is("_") ? take("_") : take("LABEL");
            }
            String name = label.text;
            if (inNo && "ABCD".indexOf(name) >= 0) {
                throw new Fault(6, label.place);
            }
            return g -> g.single(name, back);
        }

        private Cond cond(int open) {
            Cond all = both(open);
            while (took("or")) {
                Cond one = all;
                Cond two = both(open);
                all = (g, r) -> one.holds(g, r) | two.holds(g, r);
            }
            return all;
        }

        private Cond both(int open) {
            Cond all = fact(open);
            while (took("and")) {
                Cond one = all;
                Cond two = fact(open);
                all = (g, r) -> one.holds(g, r) & two.holds(g, r);
            }
            return all;
        }

        private Cond fact(int open) {
            if (took("not")) {
                Cond inner = fact(deeper(open));
                return (g, r) -> !inner.holds(g, r);
            }
            if (took("[")) {
                Cond inner = cond(deeper(open));
                take("]");
                return inner;
            }
            if (took("no")) {
                Set<String> outside = new LinkedHashSet<>(known);
                inNo = true;
                Pattern p = pattern(open);
                inNo = false;
                known = outside;
                return (g, r) -> g.absent(p, r);
            }
            Exp left = exp(open);
            Tok sign = peek();
            if (!List.of("=", "!=", "<", "<=", ">", ">=").contains(sign.kind)) {
                throw wrong();
            }
            take(sign.kind);
            Exp right = exp(open);
            return (g, r) -> compare(sign.kind, Long.compare(left.of(g, r), right.of(g, r)));
        }

        private static boolean compare(String sign, int c) {
            return switch (sign) {
                case "=" -> c == 0;
                case "!=" -> c != 0;
                case "<" -> c < 0;
                case "<=" -> c <= 0;
                case ">" -> c > 0;
                default -> c >= 0;
            };
        }

        private void item() {
            String kind = peek().kind;
            boolean fold = List.of("count", "sum", "min", "max").contains(kind);
            boolean unit = List.of("-", "(", "NUMBER", "VARIABLE").contains(kind);
            if (!fold && !unit) {
                throw wrong();
            }
            if (text.items.size() == 8) {
                throw new Fault(3, peek().place);
            }
            if (fold) {
                take(kind);
            }
            text.items.add(new Item(fold ? kind : null, kind.equals("count") ? null : exp(0)));
        }

        private Exp exp(int open) {
            Exp all = product(open);
            while (is("+") || is("-")) {
                boolean plus = is("+");
                take(peek().kind);
                Exp one = all;
                Exp two = product(open);
                all = (g, r) -> bounded(one.of(g, r) + (plus ? two.of(g, r) : -two.of(g, r)));
            }
            return all;
        }

        private Exp product(int open) {
            Exp all = unit(open);
            while (took("*")) {
                Exp one = all;
                Exp two = unit(open);
                all = (g, r) -> bounded(one.of(g, r) * two.of(g, r));
            }
            return all;
        }

        private Exp unit(int open) {
            if (took("-")) {
                Exp inner = unit(deeper(open));
                return (g, r) -> -inner.of(g, r);
            }
            if (took("(")) {
                Exp inner = exp(deeper(open));
                take(")");
                return inner;
            }
            if (is("NUMBER")) {
                long v = Long.parseLong(take("NUMBER").text);
                return (g, r) -> v;
            }
            String name = variable().text;
            if (!took(".")) {
                return (g, r) -> r.get(name);
            }
            Tok column = take("COLUMN");
            if (toldLeasts.contains(name)) {
                throw new Fault(5, column.place);
            }
            int c = column.text.charAt(1) - '0';
            return (g, r) -> g.nodes.get(r.get(name))[1 + c];
        }
    }
}
