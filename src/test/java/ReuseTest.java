/** A text is read, and a question answered, alike whatever the same object read and answered before. */
public final class ReuseTest {
    private static final Check CHECK = new Check();
    private static final String[] TEXTS = {
        "match (x) give x",
        "match (x:m0:m1)-[a]->(y:m2), (z:m0) give x, y, z",
        "match (x)-least w[a b*|(c|_)+]->(y)-least v[a?]->(z) where w < 3 or v = 0 give x, z, w*10 + v",
        "match (x)-[(a|b)*]->(y), (y)-least v[a* b]->(x) give y, v",
        "match (x)-[_ _]->(x) give x",
        "match (x)<-[a+ c?]-(y) where not [x = 1 or y = 2] and no (x)-[a]->(z:m0) give y, x limit 3",
        "match (x) where no (x:m0) and no (z:m1)-[a]->(x) or no (z:m2) give x",
        "match (x), () where no ()-[^a]->(x) give count, sum -(x + 1) * 2, min x, max x.c0, x",
        "match (x)-[" + "_?".repeat(16) + "]->(y) give x, count",
        "match (x)" + "-[_?]->(x)".repeat(10) + " give x, 1, 2, 3, 4, 5, 6, 7",
        "match (x), (y), (z), () where x < y and [y < z] give z, y, x",
        "match (x) where not not x != 1 give -x limit 2",
        "match (x)-[a]->(y) where no (y)-[b]->(z) give x, y",
        "match (x)-[A|B*]->(y) give x, y",
        "match (y)-least x[(a|^b)+]->(z:m1) where x > 1 give z, y, x",
        "match (x)-[_?]->(x)-least w[_*]->(y) give x, y, w",
        "match () give count, 1"};
    private static final String[] FAULTY = {
        "match (x) give !", "match (x", "match (x)-[((((", "match (x:m0)-least w[a|(b", "match (x) where [[not -(x", "match (y) give y limit 0",
        "match (x) where no (y:m1)-[a]->(", "match (x)-[" + "_".repeat(17), "match (x), (y), (z), (u), (v), (w), (), (), ()",
        "match (x) where no (x)-[A", "match (x) give 1, 2, 3, 4, 5, 6, 7, 8, 9", "match (x)-[a]->(y)-least z[b]", ""};
    private static final String[] RULES = {
        "match (x)-[a]->(y) give x, y",
        "match (x)-[a|A b|^c]->(y:m0) give y, x",
        "match (x:m1), (y) where no (x)-[_]->(y) give x, y",
        "match (x)-least w[_*]->(y) where w = 2 give x, y",
        "match (z)-[A|B]->(y)-[_]->(x) where x != y give z, x",
        "match (x) give x, x"};

    public static void main(String[] args) {
        questionsInTurn();
        questionsBehindFaults();
        questionsInOtherPlaces();
        rulesInTurn();
        asksInTurn();
        asksBehindChanges();
        all512Calls();
        CHECK.end("ReuseTest");
    }

    private static PathQueries graph() {
        PathQueries g = new PathQueries();
        for (int n = 0; n < 4; n++) {
            g.node(7 >> n | n);
            g.put(n, 0, 5 - 3 * n);
        }
        g.arc(0, 1, 0, 3);
        g.arc(1, 2, 1, 4);
        g.arc(2, 0, 0, 5);
        g.arc(2, 3, 2, 0);
        g.arc(3, 3, 0, 99);
        g.arc(1, 3, 1, 2);
        return g;
    }

    private static String alone(String text) {
        PathQueries g = graph();
        Check.question(g, 0, text);
        return Check.answer(g, 0);
    }

    private static void dueSame(String what, String got, String want) {
        CHECK.due(what + ": " + got + " instead of " + want, got.equals(want));
    }

    /** The last text is read into what the first one left. */
    private static void questionsInTurn() {
        for (String first : TEXTS) {
            for (String text : TEXTS) {
                PathQueries g = graph();
                Check.question(g, 0, first);
                Check.question(g, 0, "match (x) give 1");
                Check.question(g, 0, text);
                dueSame(text + " behind " + first, Check.answer(g, 0), alone(text));
            }
        }
    }

    private static void questionsBehindFaults() {
        for (String faulty : FAULTY) {
            PathQueries wrong = graph();
            CHECK.due("it is at fault: " + faulty, Check.question(wrong, 0, faulty) < -10);
            for (String text : TEXTS) {
                PathQueries g = graph();
                Check.question(g, 0, faulty);
                Check.question(g, 0, text);
                dueSame(text + " behind " + faulty, Check.answer(g, 0), alone(text));
            }
        }
    }

    private static void questionsInOtherPlaces() {
        for (int i = 0; i + 3 < TEXTS.length; i++) {
            PathQueries g = graph();
            for (int q = 0; q < 4; q++) {
                Check.question(g, 3 - q, TEXTS[i + q]);
            }
            for (int q = 0; q < 4; q++) {
                dueSame(TEXTS[i + q] + " as " + (3 - q), Check.answer(g, 3 - q), alone(TEXTS[i + q]));
            }
        }
    }

    private static String pairs(PathQueries g, int label) {
        StringBuilder all = new StringBuilder("" + g.pairs(label));
        for (int k = 0; k < 16; k++) {
            all.append(" ").append(g.leads(k / 4, k % 4, 8 + label));
        }
        return all.toString();
    }

    private static void rulesInTurn() {
        for (String first : RULES) {
            for (String text : RULES) {
                PathQueries fresh = graph();
                Check.rule(fresh, "rule A match (x)-[a b]->(y) give x, y");
                Check.rule(fresh, "rule B " + text);
                PathQueries g = graph();
                Check.rule(g, "rule A " + first);
                Check.rule(g, "rule B " + first);
                g.pairs(1);
                Check.rule(g, "rule A match (x)-[a b]->(y) give x, y");
                g.pairs(1);
                Check.rule(g, "rule B " + text);
                dueSame(text + " behind " + first, pairs(g, 1), pairs(fresh, 1));
                dueSame("A behind " + first, pairs(g, 0), pairs(fresh, 0));
            }
        }
    }

    /** What one answer left, its order too, is not seen in the next one. */
    private static void asksInTurn() {
        for (String first : TEXTS) {
            for (String text : TEXTS) {
                PathQueries g = graph();
                Check.question(g, 0, first);
                Check.question(g, 1, text);
                String before = Check.answer(g, 0);
                dueSame(text + " asked behind " + first, Check.answer(g, 1), alone(text));
                dueSame(first + " is as it was", Check.answer(g, 0), before);
            }
        }
    }

    private static void change(PathQueries g, int what) {
        switch (what) {
            case 0 -> g.drop(0);
            case 1 -> g.drop(4);
            case 2 -> g.arc(3, 0, 1, 0);
            case 3 -> g.mark(0, 0);
            case 4 -> g.put(1, 0, 77);
            case 5 -> g.bare(2);
            case 6 -> g.node(255);
            case 7 -> Check.rule(g, "rule A match (x)-[b]->(y) give y, x");
            case 8 -> Check.rule(g, "rule B match (x)-[A|a]->(y) give x, y");
            case 9 -> g.forget(0);
            default -> g.arc(4, 4, 0, 0);
        }
    }

    private static void asksBehindChanges() {
        for (String text : TEXTS) {
            PathQueries g = graph();
            Check.question(g, 2, text);
            for (int what = 0; what <= 10; what++) {
                g.ask(2);
                change(g, what);
                PathQueries fresh = graph();
                for (int before = 0; before <= what; before++) {
                    change(fresh, before);
                }
                CHECK.due("stale behind " + what, g.answer(2, 0, 0), 2000000000);
                Check.question(fresh, 0, text);
                CHECK.due("rows", g.ask(2), fresh.ask(0));
                for (int k = 0; k < 12; k++) {
                    CHECK.due(text + " behind change " + what, g.answer(2, k / 3, k % 3), fresh.answer(0, k / 3, k % 3));
                }
                for (int k = 0; k < 8; k++) {
                    CHECK.due("least of " + text, g.least(2, k / 4, k % 4), fresh.least(0, k / 4, k % 4));
                }
            }
        }
    }

    /** An object is used for 512 calls; the last one answers as the first one did. */
    private static void all512Calls() {
        PathQueries g = new PathQueries();
        CHECK.due("node", g.node(0), 0);
        CHECK.due("node", g.node(0), 1);
        int[] fed = Check.five("match(x:m1)give x    ", 0);
        for (int i = 0; i < 85; i++) {
            CHECK.due("feed", g.feed(fed[0], fed[1], fed[2], fed[3], fed[4]), 20);
            CHECK.due("question", g.question(i % 4), 1);
            CHECK.due("mark", g.mark(1, i % 2 * 2), i == 0 ? 0 : 2 - i % 2 * 2);
            CHECK.due("ask", g.ask(i % 4), i % 2);
            CHECK.due("answer", g.answer(i % 4, 0, 0), i % 2 == 0 ? 2000000000 : 1);
            CHECK.due("cut", g.cut(1), -1);
        }
    }
}
