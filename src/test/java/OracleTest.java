import java.util.ArrayList;
import java.util.List;
import java.util.Random;

/** Runs of calls by chance (from fixed seeds), each answer against that of the naive form. */
public final class OracleTest {
    private static final String[] VARS = {"x", "y", "z", "u", "v", "w", "x1", "y0", "z9", "u5"};
    private final Check check = new Check();
    private Random random = new Random(1);
    private PathQueries g;
    private Naive n;
    private String log = "";
    private int calls = 0;
    private int vars = 4;
    private int big = 0;
    private final List<String> nodesTold = new ArrayList<>();
    private final List<String> allTold = new ArrayList<>();

    public static void main(String[] args) {
        int runs = args.length > 0 ? Integer.parseInt(args[0]) : 1500;
        int first = args.length > 1 ? Integer.parseInt(args[1]) : 0;
        OracleTest test = new OracleTest();
        for (int run = first; run < first + runs && test.check.wrong() == 0; run++) {
            test.run(run);
        }
        test.check.end("OracleTest");
    }

    private int up(int bound) {
        return random.nextInt(bound);
    }

    private boolean chance(int percent) {
        return up(100) < percent;
    }

    private void due(String call, int got, int want) {
        calls++;
        if (got != want) {
            System.out.println("run so far:\n" + log);
        }
        log = log + call + " -> " + want + "\n";
        check.due(call, got, want);
    }

    private void run(int seed) {
        random = new Random(seed * 7919L + 3);
        g = new PathQueries();
        n = new Naive();
        log = "";
        calls = 0;
        int most = chance(5) ? 16 : 1 + up(5);
        for (int i = chance(90) ? 1 + up(most) : 0; i > 0; i--) {
            graphCall(0);
        }
        for (int i = up(3 * most + 1); i > 0; i--) {
            graphCall(1);
        }
        for (int i = 0; i < 12 && calls < 380; i++) {
            oneText();
            for (int k = up(3); k > 0; k--) {
                graphCall(up(8));
            }
        }
    }

    private int nodeNumber() {
        return chance(4) ? up(20) - 2 : up(Math.max(1, n.nodes.size()));
    }

    private void graphCall(int what) {
        int a = nodeNumber();
        int b = nodeNumber();
        int c = up(chance(5) ? 10 : 3) - (chance(3) ? 1 : 0);
        int d = chance(5) ? up(200) - 50 : up(100);
        int marks = chance(5) ? up(400) - 60 : up(4);
        switch (what) {
            case 0 -> due("node(" + marks + ")", g.node(marks), n.node(marks));
            case 1, 2 -> due("arc(" + a + "," + b + "," + c + "," + d + ")", g.arc(a, b, c, d), n.arc(a, b, c, d));
            case 3 -> due("put(" + a + "," + c + "," + (d - 50) + ")", g.put(a, c, d - 50), n.put(a, c, d - 50));
            case 4 -> due("mark(" + a + "," + marks + ")", g.mark(a, marks), n.mark(a, marks));
            case 5 -> due("drop(" + d / 9 + ")", g.drop(d / 9), n.drop(d / 9));
            case 6 -> {
                if (chance(20)) {
                    due("bare(" + a + ")", g.bare(a), n.bare(a));
                } else {
                    int k = chance(50) ? a : d / 5;
                    int told = up(16) - 1;
                    due("told(" + told + "," + k + ")", g.told(told, k), n.told(told, k));
                }
            }
            default -> due("forget(" + (c - 1) + ")", g.forget(c - 1), n.forget(c - 1));
        }
    }

    private void oneText() {
        vars = chance(15) ? 10 : 2 + up(3);
        nodesTold.clear();
        allTold.clear();
        big = chance(20) ? 1 : 0;
        boolean rule = chance(35);
        List<String> tokens = new ArrayList<>();
        if (rule) {
            ruleText(tokens);
        } else {
            questionText(tokens);
        }
        if (chance(25)) {
            mutate(tokens);
        }
        String text = joined(tokens);
        if (chance(4)) {
            text = scratch(text);
        }
        if (text.length() > 1480) {
            text = text.substring(0, 1480);
        }
        feed(text);
        if (chance(3)) {
            due("question(4)", g.question(4), n.question(4));
        }
        if (rule != chance(3)) {
            due("rule: " + text, g.rule(), n.rule());
        } else {
            int q = up(4);
            due("question " + q + ": " + text, g.question(q), n.question(q));
            due("place()", g.place(), n.place());
            askAll(q);
        }
        due("place()", g.place(), n.place());
        asks();
    }

    private void asks() {
        int q = up(5) - (chance(5) ? 1 : 0);
        int a = nodeNumber();
        int b = nodeNumber();
        int label = up(13) - (chance(5) ? 1 : 0);
        askAll(q);
        due("leads(" + a + "," + b + "," + label + ")", g.leads(a, b, label), n.leads(a, b, label));
        due("pairs(" + (label - 7) + ")", g.pairs(label - 7), n.pairs(label - 7));
        due("least(" + q + "," + a + "," + b + ")", g.least(q, a, b), n.least(q, a, b));
        due("answer(" + q + "," + a + ",0)", g.answer(q, a, 0), n.answer(q, a, 0));
    }

    private void askAll(int q) {
        int rows = n.ask(q);
        due("ask(" + q + ")", g.ask(q), rows);
        for (int r = 0; r < rows; r++) {
            for (int i = 0; i < n.answers.get(q).get(r).size(); i++) {
                int got = g.answer(q, r, i);
                if (got != n.answer(q, r, i)) {
                    due("answer(" + q + "," + r + "," + i + ")", got, n.answer(q, r, i));
                }
            }
        }
        for (int i = 0; i < 2; i++) {
            int r = up(rows < 1 ? 3 : rows + 2) - 1;
            int item = up(5) - 1;
            due("answer(" + q + "," + r + "," + item + ")", g.answer(q, r, item), n.answer(q, r, item));
        }
    }

    private void feed(String text) {
        for (int i = 0; i < text.length(); i += 20) {
            int[] f = Check.five(text, i);
            due("feed", g.feed(f[0], f[1], f[2], f[3], f[4]), n.feed(f[0], f[1], f[2], f[3], f[4]));
        }
        int cut = chance(90) ? (20 - text.length() % 20) % 20 : up(22) - 1;
        due("cut(" + cut + ")", g.cut(cut), n.cut(cut));
    }

    // ---- texts

    private void questionText(List<String> t) {
        t.add("match");
        body(t);
        t.add("give");
        item(t);
        for (int i = big == 1 ? up(9) : up(3); i > 0; i--) {
            t.add(",");
            item(t);
        }
        if (chance(20)) {
            t.add("limit");
            t.add(chance(10) ? "0" : "" + up(12));
        }
    }

    private void ruleText(List<String> t) {
        t.add("rule");
        t.add(chance(3) ? "a" : "" + "ABCD".charAt(up(4)));
        t.add("match");
        body(t);
        t.add("give");
        t.add(told(nodesTold));
        t.add(",");
        t.add(told(nodesTold));
    }

    private String told(List<String> names) {
        return names.isEmpty() || chance(3) ? VARS[up(vars)] : names.get(up(names.size()));
    }

    private void body(List<String> t) {
        pattern(t, big == 1 ? up(5) : up(3));
        for (int i = chance(30) ? 1 + big * up(3) : 0; i > 0; i--) {
            t.add(",");
            pattern(t, up(2));
        }
        if (chance(45)) {
            t.add("where");
            cond(t, big == 1 ? 8 : 2);
        }
    }

    private void pattern(List<String> t, int ways) {
        node(t);
        for (int i = 0; i < ways; i++) {
            boolean turned = chance(30);
            t.add(turned ? "<-" : "-");
            if (chance(20)) {
                t.add("least");
                String name = freshName();
                t.add(name);
                allTold.add(name);
            }
            t.add("[");
            rows(t, big == 1 ? 5 : 2);
            t.add("]");
            t.add(turned ? "-" : "->");
            node(t);
        }
    }

    private String freshName() {
        for (String name : VARS) {
            if (!allTold.contains(name) && chance(80)) {
                return name;
            }
        }
        return VARS[up(vars)];
    }

    private void node(List<String> t) {
        t.add("(");
        if (chance(92)) {
            String name = chance(40) ? told(nodesTold) : VARS[up(Math.max(1, vars - 1))];
            if (allTold.contains(name) && !nodesTold.contains(name) && chance(90)) {
                name = told(nodesTold);
            }
            t.add(name);
            nodesTold.add(name);
            allTold.add(name);
        }
        for (int i = chance(12) ? 1 + up(2) : 0; i > 0; i--) {
            t.add(":");
            t.add("m" + up(chance(90) ? 2 : 8));
        }
        t.add(")");
    }

    private void rows(List<String> t, int depth) {
        row(t, depth);
        for (int i = chance(30) ? 1 + up(2) : 0; i > 0; i--) {
            t.add("|");
            row(t, depth);
        }
    }

    private void row(List<String> t, int depth) {
        for (int i = chance(60) ? 1 : 1 + up(3 + 4 * big); i > 0; i--) {
            if (depth > 0 && chance(20)) {
                t.add("(");
                rows(t, depth - 1);
                t.add(")");
            } else {
                if (chance(20)) {
                    t.add("^");
                }
                t.add(chance(15) ? "_" : "" + "aaabbcdefghABCD".charAt(up(chance(70) ? 5 : 15)));
            }
            if (chance(35)) {
                t.add("" + "*+?".charAt(up(3)));
            }
        }
    }

    private void cond(List<String> t, int depth) {
        fact(t, depth);
        for (int i = chance(40) ? 1 + up(2) : 0; i > 0; i--) {
            t.add(chance(50) ? "and" : "or");
            fact(t, depth);
        }
    }

    private void fact(List<String> t, int depth) {
        int kind = up(10);
        if (depth > 0 && kind < 2 + 2 * big) {
            t.add("not");
            fact(t, depth - 1);
        } else if (kind < 5) {
            List<String> nodesBefore = new ArrayList<>(nodesTold);
            List<String> allBefore = new ArrayList<>(allTold);
            t.add("no");
            pattern(t, up(3));
            nodesTold.clear();
            nodesTold.addAll(nodesBefore);
            allTold.clear();
            allTold.addAll(allBefore);
        } else if (depth > 0 && kind == 5) {
            t.add("[");
            cond(t, depth - 1);
            t.add("]");
        } else {
            exp(t, depth);
            t.add(new String[] {"=", "!=", "<", "<=", ">", ">="}[up(6)]);
            exp(t, depth);
        }
    }

    private void exp(List<String> t, int depth) {
        unit(t, depth);
        for (int i = chance(30) ? 1 + up(3) : 0; i > 0; i--) {
            t.add("" + "+-*".charAt(up(3)));
            unit(t, depth);
        }
    }

    private void unit(List<String> t, int depth) {
        if (depth > 0 && chance(10 + 15 * big)) {
            t.add("-");
            unit(t, depth - 1);
        } else if (depth > 0 && chance(12 + 15 * big)) {
            t.add("(");
            exp(t, depth - 1);
            t.add(")");
        } else if (chance(25)) {
            t.add("" + (chance(20) ? up(10000) : up(5)));
        } else {
            String name = told(allTold);
            t.add(name);
            if (chance(nodesTold.contains(name) ? 40 : 2)) {
                t.add(".");
                t.add("c" + up(3));
            }
        }
    }

    private void item(List<String> t) {
        if (chance(10)) {
            t.add("count");
            return;
        }
        if (chance(25)) {
            t.add(new String[] {"sum", "min", "max"}[up(3)]);
        }
        exp(t, 1 + 6 * big);
    }

    private void mutate(List<String> t) {
        String[] pool = {"match", "where", "give", "limit", "and", "or", "not", "no", "least", "count", "sum",
            "min", "max", "rule", "x", "y", "w7", "m0", "c1", "a", "h", "A", "7", "0", "12345", "(", ")", "[",
            "]", "-", "->", "<-", ":", ",", ".", "_", "^", "*", "+", "?", "|", "=", "!=", "<", "<=", ">",
            ">=", "!", "m8", "i", "xx", "x10", "#", "\u00e9", "E"};
        for (int i = 1 + up(2); i > 0 && !t.isEmpty(); i--) {
            int at = up(t.size());
            switch (up(4)) {
                case 0 -> t.remove(at);
                case 1 -> t.add(at, pool[up(pool.length)]);
                case 2 -> t.set(at, pool[up(pool.length)]);
                default -> {
                    while (t.size() > at) {
                        t.remove(t.size() - 1);
                    }
                }
            }
        }
    }

    private String joined(List<String> t) {
        StringBuilder all = new StringBuilder();
        boolean tight = chance(30);
        for (String token : t) {
            boolean glue = all.length() > 0 && isName(all.charAt(all.length() - 1)) && isName(token.charAt(0));
            if (glue && chance(99) || !tight && chance(50)) {
                all.append(" \t\n\r".charAt(chance(95) ? 0 : up(4)));
            }
            all.append(token);
        }
        return all.toString();
    }

    private static boolean isName(char c) {
        return c >= 'a' && c <= 'z' || c >= 'A' && c <= 'Z' || c >= '0' && c <= '9';
    }

    private String scratch(String text) {
        if (text.isEmpty()) {
            return text;
        }
        int at = up(text.length());
        return text.substring(0, at) + (char) up(256) + text.substring(at + 1);
    }
}
