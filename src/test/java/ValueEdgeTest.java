/** Boundary cases of values, sums, limits, WORK and ROUNDS, and of promises 15 to 19. */
public final class ValueEdgeTest {
    private static final Check CHECK = new Check();
    private static final int NONE = 2000000000;
    private static final int LEAST = Integer.MIN_VALUE;
    private static final int MOST = Integer.MAX_VALUE;
    private static final String BILLION = "1000*1000*1000";
    private static final String ONE_LESS = "(9999*9999*10 + 9999*20 + 9)";

    public static void main(String[] args) {
        sumsOfTwo();
        differences();
        products();
        minuses();
        eachOperationIsBounded();
        boundsInConditions();
        sumIsWholeThenBounded();
        sumAtItsBounds();
        foldsOfNoRows();
        foldsOfOneRow();
        mostRows();
        sortedFromTheLeast();
        limits();
        limitOf9999();
        workOfQuestions();
        workOfNoAndLeast();
        workOfFewNodes();
        workOfARule();
        roundsOfExactlyAMillion();
        roundsJustBelowAMillion();
        roundsOfTwoRules();
        roundsOfFourRules();
        fewRounds();
        askBounds();
        answerBounds();
        answerOfTheLatestAsk();
        leadsBounds();
        leadsWhenLarge();
        pairsBounds();
        pairsNoneToAll();
        leastBounds();
        leastNoneToMost();
        tenWaysMean();
        sixteenStepsMean();
        eightNamesMean();
        eightItemsMean();
        tenOpenOnesMean();
        manyAbsencesMean();
        twoHundredTokensMean();
        CHECK.end("ValueEdgeTest");
    }

    private static void due(String call, long got, long want) {
        CHECK.due(call, got, want);
    }

    private static PathQueries nodes(int count) {
        PathQueries g = new PathQueries();
        for (int i = 0; i < count; i++) {
            g.node(0);
        }
        return g;
    }

    private static void value(String exp, int want) {
        CHECK.dueAnswer(nodes(1), "match (x) give " + exp, "" + want);
    }

    private static void sumsOfTwo() {
        value(ONE_LESS, 999999999);
        value(ONE_LESS + " + 1", 1000000000);
        value(ONE_LESS + " + 2", 1000000000);
        value(ONE_LESS + " + " + ONE_LESS, 1000000000);
        value("-" + ONE_LESS + " + -1", -1000000000);
        value("-" + ONE_LESS + " + -2", -1000000000);
        value("-" + ONE_LESS + " + -" + ONE_LESS, -1000000000);
        value(BILLION + " + -" + BILLION, 0);
    }

    private static void differences() {
        value("-" + ONE_LESS, -999999999);
        value("-" + ONE_LESS + " - 1", -1000000000);
        value("-" + ONE_LESS + " - 2", -1000000000);
        value("0 - " + BILLION + " - " + BILLION, -1000000000);
        value(ONE_LESS + " - -1", 1000000000);
        value(ONE_LESS + " - -2", 1000000000);
        value(BILLION + " - " + BILLION, 0);
        value(BILLION + " - 1", 999999999);
    }

    private static void products() {
        value(BILLION, 1000000000);
        value(BILLION + "*1", 1000000000);
        value("1000*1000*1001", 1000000000);
        value("1000*1000*999", 999000000);
        value("1000*1000*-1000", -1000000000);
        value("1000*1000*-1001", -1000000000);
        value("(" + BILLION + ")*(" + BILLION + ")", 1000000000);
        value("(" + BILLION + ")*(-" + BILLION + ")", -1000000000);
        value("(-" + BILLION + ")*(-" + BILLION + ")", 1000000000);
        value("(" + BILLION + ")*0", 0);
        value("9999*9999", 99980001);
        value("9999*9999*9999*9999*9999", 1000000000);
        value(ONE_LESS + "*-1", -999999999);
    }

    private static void minuses() {
        value("-(" + BILLION + ")", -1000000000);
        value("--(" + BILLION + ")", 1000000000);
        value("-(0 - " + BILLION + " - 1)", 1000000000);
        value("-0", 0);
        value("-9999", -9999);
        value("--9999", 9999);
    }

    private static void eachOperationIsBounded() {
        value(ONE_LESS + " + 1 - 1", 999999999);
        value(ONE_LESS + " + 2 - 2", 999999998);
        value(ONE_LESS + " + (2 - 2)", 999999999);
        value("-" + ONE_LESS + " - 1 + 1", -999999999);
        value("-" + ONE_LESS + " - 2 + 2", -999999998);
        value("1000*1000*1001 - 1000*1000", 999000000);
        value("1000*1000*1001*-1 + 1", -999999999);
    }

    private static void boundsInConditions() {
        PathQueries g = nodes(2);
        CHECK.dueAnswer(g, "match (x) where 1000*1000*1001 = " + BILLION + " give x", "0; 1");
        CHECK.dueAnswer(g, "match (x) where " + BILLION + " + x > " + BILLION + " give x", "");
        CHECK.dueAnswer(g, "match (x) where " + ONE_LESS + " + x = " + BILLION + " give x", "1");
        CHECK.dueAnswer(g, "match (x) where -" + BILLION + " - x >= -1000*1000*1000 give x", "0; 1");
    }

    /** Four nodes with 1, 1, -1, -1 in c0. */
    private static PathQueries signs() {
        PathQueries g = nodes(4);
        for (int n = 0; n < 4; n++) {
            g.put(n, 0, n < 2 ? 1 : -1);
        }
        return g;
    }

    private static void sumIsWholeThenBounded() {
        CHECK.dueAnswer(signs(), "match (x) give sum x.c0*" + BILLION, "0");
        CHECK.dueAnswer(signs(), "match (x) give sum x.c0*" + BILLION + " + x", "5");
        CHECK.dueAnswer(signs(), "match (x) where x != 3 give sum x.c0*" + BILLION, "1000000000");
        CHECK.dueAnswer(signs(), "match (x) where x > 0 give sum x.c0*" + BILLION, "-1000000000");
        CHECK.dueAnswer(signs(), "match (x) give x.c0, sum " + BILLION, "-1 1000000000; 1 1000000000");
    }

    private static void sumAtItsBounds() {
        PathQueries g = nodes(2);
        CHECK.dueAnswer(g, "match (x) give sum 5000*5000*20", "1000000000");
        CHECK.dueAnswer(g, "match (x) give sum 5000*5000*20 - x", "999999999");
        CHECK.dueAnswer(g, "match (x) give sum 5000*5000*20 + x", "1000000000");
        CHECK.dueAnswer(g, "match (x) give sum -5000*5000*20", "-1000000000");
        CHECK.dueAnswer(g, "match (x) give sum x - 5000*5000*20", "-999999999");
        CHECK.dueAnswer(g, "match (x) give sum -x - 5000*5000*20", "-1000000000");
        CHECK.dueAnswer(nodes(16), "match (x), (), () give sum " + BILLION + ", sum -" + BILLION + ", count",
                "1000000000 -1000000000 4096");
        CHECK.dueAnswer(nodes(7), "match (x), (), (), (), () give sum " + BILLION + ", sum -" + BILLION + ", count",
                "1000000000 -1000000000 16807");
    }

    private static void foldsOfNoRows() {
        for (String item : new String[] {"count", "sum x", "min x", "max x", "x, count", "count, 1", "x"}) {
            CHECK.dueAnswer(nodes(0), "match (x) give " + item, "");
            CHECK.dueAnswer(nodes(3), "match (x) where x > 2 give " + item, "");
            CHECK.dueAnswer(nodes(3), "match (x:m0) give " + item, "");
        }
        PathQueries g = nodes(3);
        Check.question(g, 0, "match (x:m7) give count");
        due("15: no rows", g.ask(0), 0);
        due("16: none such", g.answer(0, 0, 0), NONE);
    }

    private static void foldsOfOneRow() {
        CHECK.dueAnswer(nodes(1), "match (x) give count, sum x - 1, min x - 1, max x - 1", "1 -1 -1 -1");
        CHECK.dueAnswer(nodes(3), "match (x) give x, count, sum x, min x, max x", "0 1 0 0 0; 1 1 1 1 1; 2 1 2 2 2");
        CHECK.dueAnswer(signs(), "match (x) give min x.c0*" + BILLION + ", max x.c0*" + BILLION, "-1000000000 1000000000");
    }

    private static void mostRows() {
        PathQueries g = nodes(7);
        Check.question(g, 0, "match (x), (y), (z), (u), (v) give x, y, z, u, v, -x, 7, x + v");
        due("15: 16807 rows", g.ask(0), 16807);
        int[] last = {6, 6, 6, 6, 6, -6, 7, 12};
        for (int i = 0; i < 8; i++) {
            due("16: the first", g.answer(0, 0, i), i == 6 ? 7 : 0);
            due("16: the last", g.answer(0, 16806, i), last[i]);
        }
        due("16: behind it", g.answer(0, 16807, 0), NONE);
        due("16: behind its last item", g.answer(0, 16806, 8), NONE);
        for (int r = 0; r < 16807; r += 337) {
            due("16: in their order", g.answer(0, r, 3), r / 7 % 7);
        }
    }

    private static void sortedFromTheLeast() {
        CHECK.dueAnswer(signs(), "match (x) give x.c0*" + BILLION, "-1000000000; 1000000000");
        CHECK.dueAnswer(signs(), "match (x) give x.c0*" + BILLION + ", -x",
                "-1000000000 -3; -1000000000 -2; 1000000000 -1; 1000000000 0");
        CHECK.dueAnswer(nodes(3), "match (x), (y) give (x - 1) * (y - 1)", "-1; 0; 1");
        CHECK.dueAnswer(nodes(2), "match (x), (y) give 1, x, 1, y", "1 0 1 0; 1 0 1 1; 1 1 1 0; 1 1 1 1");
    }

    private static void limits() {
        for (int count = 0; count <= 4; count++) {
            for (int limit = 1; limit <= 5; limit++) {
                PathQueries g = nodes(count);
                Check.question(g, 0, "match (x) give -x limit " + limit);
                int rows = Math.min(count, limit);
                due("15: limit " + limit + " of " + count, g.ask(0), rows);
                due("16: the first of them", g.answer(0, 0, 0), rows == 0 ? NONE : 1 - count);
                due("16: none behind", g.answer(0, rows, 0), NONE);
                Check.question(g, 0, "match (x), () give x, count limit " + limit);
                due("15: of groups, too", g.ask(0), rows);
            }
        }
    }

    private static void limitOf9999() {
        PathQueries g = nodes(11);
        Check.question(g, 0, "match (x), (y), (z), (u) give x, y, z, u limit 9999");
        Check.question(g, 1, "match (x), (y), (z), (u) give x, y, z, u");
        due("15: limit 9999", g.ask(0), 9999);
        due("15: without", g.ask(1), 14641);
        for (int i = 0; i < 4; i++) {
            due("16: the last of them", g.answer(0, 9998, i), g.answer(1, 9998, i));
        }
        due("16: behind it", g.answer(0, 9999, 0), NONE);
        due("16: without", g.answer(1, 9999, 0), 7);
    }

    /** The most nodes of a text with so many names: n to that power is at most 20000. */
    private static void workOfQuestions() {
        int[] most = {0, 16, 16, 16, 11, 7, 5, 4, 3};
        for (int names = 1; names <= 8; names++) {
            String nameless = "match ()" + ", ()".repeat(names - 1) + " give count";
            PathQueries g = nodes(most[names]);
            Check.question(g, 0, nameless);
            due("15: " + names + " of " + most[names], g.ask(0), 1);
            due("16: all of them", g.answer(0, 0, 0), (long) Math.pow(most[names], names));
            if (most[names] < 16) {
                g.node(0);
                due("15: one node more", g.ask(0), -4);
                due("16: none then", g.answer(0, 0, 0), NONE);
                g.bare(0);
                due("15: a bare node counts, too", g.ask(0), -4);
            }
        }
    }

    private static void workOfNoAndLeast() {
        PathQueries g = nodes(11);
        String[] four = {"match (x), (y), (z) where no (u:m0) give count", "match (x) where no (y:m0)-[a]->(z)-[a]->(u) give count",
            "match (x) where no () and no () or no () give count", "match (x), (), () where no (:m0) give count"};
        for (int q = 0; q < 4; q++) {
            Check.question(g, q, four[q]);
            due("15: four of eleven", g.ask(q), q == 2 ? 0 : 1);
        }
        g.node(0);
        for (int q = 0; q < 4; q++) {
            due("15: four of twelve", g.ask(q), -4);
        }
        Check.question(g, 0, "match (x), (y) where no (z:m0) and no (z:m1) and no (z:m2) give count");
        due("15: the same name is one", g.ask(0), 1);
        Check.question(g, 0, "match (x)-least u[a*]->(y)-least v[a*]->(z)-least w[a*]->(x) give count");
        due("15: those of least are none", g.ask(0), 1);
        Check.question(g, 0, "match (x) where no (y)-least u[a]->(z)-least v[a]->(x) give count");
        due("15: nor in a no", g.ask(0), 1);
    }

    private static void workOfFewNodes() {
        String eight = "match (x), (y), (z), (u), (v), (w), (x1), (x2) give x, x2";
        for (int count = 0; count <= 4; count++) {
            PathQueries g = nodes(count);
            Check.question(g, 0, eight);
            due("15: eight of " + count, g.ask(0), count == 4 ? -4 : count * count);
            Check.rule(g, "rule A " + eight);
            due("18: eight of " + count, g.pairs(0), count == 4 ? -4 : count * count);
        }
    }

    private static void workOfARule() {
        PathQueries g = nodes(11);
        Check.question(g, 0, "match (x) give x");
        Check.rule(g, "rule A match (x), (y), (z), () give x, y");
        due("18: four of eleven", g.pairs(0), 121);
        due("15: no rule is large", g.ask(0), 11);
        due("17: no rule is large", g.leads(10, 10, 8), 1);
        g.node(0);
        due("18: four of twelve", g.pairs(0), -4);
        due("15: a rule is large", g.ask(0), -4);
        due("17: a rule is large", g.leads(10, 10, 8), -4);
        Check.rule(g, "rule A match (x), (y), () give x, y");
        due("18: three of twelve", g.pairs(0), 144);
        due("15: none is large any more", g.ask(0), 12);
        Check.rule(g, "rule B match (x), (y), (z), () give x, y");
        due("18: another one is large", g.pairs(0), -4);
        due("18: that one", g.pairs(1), -4);
        due("18: none of that label", g.pairs(2), -2);
        g.forget(1);
        due("18: it went", g.pairs(0), 144);
    }

    /** Gives one pair more each round, row by row, so many of them: one round more than pairs. */
    private static PathQueries counting(int nodes) {
        PathQueries g = nodes(nodes);
        for (int n = 1; n < nodes; n++) {
            g.arc(n - 1, n, 0, 0);
        }
        g.arc(0, 0, 1, 0);
        g.arc(nodes - 1, 0, 2, 0);
        Check.question(g, 0, "match (x) give x");
        Check.question(g, 1, "match (x)-[a]->(y) give x");
        return g;
    }

    private static String counter(int nodes, String more, int pairs) {
        return "rule A match (x)-[b|A a|^a A c]->(y)" + more + " where " + nodes + "*x + y < " + pairs + " give x, y";
    }

    private static void dueRounds(PathQueries g, int pairs, boolean large) {
        due("18: pairs " + pairs, g.pairs(0), large ? -4 : pairs);
        due("15: each question", g.ask(0), large ? -4 : g.told(0, 0));
        due("17: of rules", g.leads(0, 0, 8), large ? -4 : 1);
        due("17: those told", g.leads(0, 0, 1), 1);
        due("19: least", g.least(1, 0, 1), large ? -4 : 1);
    }

    private static void roundsOfExactlyAMillion() {
        for (int pairs = 97; pairs <= 100; pairs++) {
            PathQueries g = counting(10);
            due("12: rule", Check.rule(g, counter(10, ", (), ()", pairs)), 0);
            // 10000 times one round more than pairs.
            dueRounds(g, pairs, pairs == 100);
        }
    }

    private static void roundsJustBelowAMillion() {
        for (int pairs = 242; pairs <= 245; pairs++) {
            PathQueries g = counting(16);
            Check.rule(g, counter(16, ", ()", pairs));
            // 4096 times 244 is 999424, and times 245 it is 1003520.
            dueRounds(g, pairs, pairs >= 244);
        }
        PathQueries all = counting(16);
        Check.rule(all, counter(16, "", 256));
        dueRounds(all, 256, false);
    }

    private static void roundsOfTwoRules() {
        for (int pairs = 227; pairs <= 230; pairs++) {
            PathQueries g = counting(16);
            Check.rule(g, counter(16, ", ()", pairs));
            Check.rule(g, "rule D match (x)-[h]->(y) give x, y");
            // 4096 and 256, times 229 it is 996608, and times 230 it is 1000960.
            dueRounds(g, pairs, pairs >= 229);
            due("18: the other, too", g.pairs(3), pairs >= 229 ? -4 : 0);
            g.forget(3);
            dueRounds(g, pairs, false);
        }
    }

    /** Four rules of 10000: each hop takes four rounds, and one arc of d at the end one more. */
    private static void roundsOfFourRules() {
        for (int more = 0; more <= 1; more++) {
            PathQueries g = nodes(10);
            for (int n = 0; n < 5; n++) {
                g.arc(n, n + 1, 0, 0);
            }
            g.arc(0, 0, 1, 0);
            if (more == 1) {
                g.arc(5, 6, 3, 0);
            }
            Check.rule(g, "rule A match (x)-[D a|b]->(y), (z), () give x, y");
            Check.rule(g, "rule B match (x)-[A]->(y), (z), () give x, y");
            Check.rule(g, "rule C match (x)-[B]->(y), (z), () give x, y");
            Check.rule(g, "rule D match (x)-[C|D d]->(y), (z), () give x, y");
            Check.question(g, 0, "match (x) give x");
            due("18: 25 rounds and " + more, g.pairs(3), more == 0 ? 6 : -4);
            due("18: 25 rounds and " + more, g.pairs(0), more == 0 ? 6 : -4);
            due("15: 25 rounds and " + more, g.ask(0), more == 0 ? 10 : -4);
        }
    }

    /** A rule that gives nothing at all has one round, and one that needs no others' arcs has two. */
    private static void fewRounds() {
        PathQueries g = nodes(11);
        Check.rule(g, "rule A match (x:m0), (y), (z), () give x, y");
        due("18: nothing", g.pairs(0), 0);
        g.mark(0, 1);
        due("18: a row of them", g.pairs(0), 11);
        PathQueries empty = nodes(0);
        Check.rule(empty, counter(16, ", ()", 256));
        due("18: no nodes", empty.pairs(0), 0);
    }

    private static void askBounds() {
        PathQueries g = nodes(2);
        for (int q : new int[] {-1, 4, LEAST, MOST, 256}) {
            due("15: q " + q, g.ask(q), -1);
        }
        for (int q = 0; q < 4; q++) {
            due("15: no question yet", g.ask(q), -2);
            Check.question(g, q, "match (x) where x >= " + q + " give x");
            due("15: rows", g.ask(q), Math.max(0, 2 - q));
        }
    }

    private static void answerBounds() {
        PathQueries g = nodes(3);
        for (int q = 0; q < 4; q++) {
            Check.question(g, q, "match (x) give x, " + q);
            due("16: not asked yet", g.answer(q, 0, 0), NONE);
            g.ask(q);
            due("16: the first", g.answer(q, 0, 0), 0);
            due("16: the last", g.answer(q, 2, 1), q);
            for (int r : new int[] {-1, 3, LEAST, MOST}) {
                due("16: row " + r, g.answer(q, r, 0), NONE);
                due("16: row " + r, g.answer(q, r, 1), NONE);
            }
            for (int i : new int[] {-1, 2, LEAST, MOST}) {
                due("16: item " + i, g.answer(q, 0, i), NONE);
                due("16: item " + i, g.answer(q, 2, i), NONE);
            }
        }
        for (int q : new int[] {-1, 4, LEAST, MOST}) {
            due("16: q " + q, g.answer(q, 0, 0), NONE);
        }
    }

    private static void answerOfTheLatestAsk() {
        PathQueries g = nodes(11);
        Check.question(g, 0, "match (x), (y), (z), (u) where x = 10 and y = 10 and z = 10 give u");
        due("15: rows", g.ask(0), 11);
        due("16: its last", g.answer(0, 10, 0), 10);
        g.node(0);
        due("16: the graph changed", g.answer(0, 10, 0), NONE);
        due("15: it is large", g.ask(0), -4);
        due("16: none since", g.answer(0, 10, 0), NONE);
        Check.question(g, 0, "match (x) give x");
        due("16: the question changed", g.answer(0, 0, 0), NONE);
        due("15: rows", g.ask(0), 12);
        due("16: its last", g.answer(0, 11, 0), 11);
        Check.rule(g, "rule A match (x) give x, x");
        due("16: the rules changed", g.answer(0, 11, 0), NONE);
        g.ask(0);
        due("16: asked anew", g.answer(0, 11, 0), 11);
        g.forget(0);
        due("16: the rules changed", g.answer(0, 11, 0), NONE);
    }

    private static void leadsBounds() {
        for (int count = 1; count <= 16; count += 5) {
            PathQueries g = nodes(count);
            for (int n : new int[] {-1, count, LEAST, MOST, 16}) {
                for (int label = 0; label < 12; label += 11) {
                    due("17: from " + n, g.leads(n, 0, label), -1);
                    due("17: to " + n, g.leads(0, n, label), -1);
                }
            }
            for (int label : new int[] {-1, 12, LEAST, MOST, 256}) {
                due("17: label " + label, g.leads(0, 0, label), -1);
            }
            for (int label = 0; label < 12; label++) {
                due("17: none", g.leads(count - 1, count - 1, label), 0);
            }
        }
        PathQueries g = nodes(2);
        for (int label = 0; label < 8; label++) {
            for (int k = 0; k < label; k++) {
                g.arc(0, 1, label, k);
            }
        }
        for (int label = 0; label < 8; label++) {
            due("17: how many", g.leads(0, 1, label), label);
            due("17: none back", g.leads(1, 0, label), 0);
        }
    }

    private static void leadsWhenLarge() {
        PathQueries g = nodes(12);
        g.arc(0, 1, 7, 0);
        Check.rule(g, "rule D match (x), (y), (z), () give x, y");
        due("17: the last told", g.leads(0, 1, 7), 1);
        due("17: the first of rules", g.leads(0, 1, 8), -4);
        due("17: the last of rules", g.leads(0, 1, 11), -4);
        due("17: no such label", g.leads(0, 1, 12), -1);
        due("17: no such node", g.leads(12, 1, 11), -1);
        due("17: no such node", g.leads(1, -1, 11), -1);
    }

    private static void pairsBounds() {
        PathQueries g = nodes(1);
        for (int label : new int[] {-1, 4, LEAST, MOST, 8, 11}) {
            due("18: label " + label, g.pairs(label), -1);
        }
        for (int label = 0; label < 4; label++) {
            due("18: no rule", g.pairs(label), -2);
            Check.rule(g, "rule " + "ABCD".charAt(label) + " match (x) give x, x");
            due("18: one", g.pairs(label), 1);
        }
    }

    private static void pairsNoneToAll() {
        PathQueries g = nodes(16);
        Check.rule(g, "rule A match (x), (y) give x, y");
        due("18: all", g.pairs(0), 256);
        due("17: the last", g.leads(15, 15, 8), 1);
        due("17: once only", g.leads(0, 15, 8), 1);
        Check.rule(g, "rule A match (x), (y), (z) give y, z");
        due("18: each once", g.pairs(0), 256);
        Check.rule(g, "rule A match (x), (y) where x = 15 and y = 0 give x, y");
        due("18: one", g.pairs(0), 1);
        due("17: that", g.leads(15, 0, 8), 1);
        due("17: not back", g.leads(0, 15, 8), 0);
        Check.rule(g, "rule A match (x), (y) where x > 15 give x, y");
        due("18: none", g.pairs(0), 0);
    }

    private static void leastBounds() {
        for (int count = 1; count <= 16; count += 5) {
            PathQueries g = nodes(count);
            Check.question(g, 0, "match (x)-[_*]->(y) give x");
            Check.question(g, 3, "match (x) give x");
            for (int n : new int[] {-1, count, LEAST, MOST, 16}) {
                due("19: from " + n, g.least(0, n, 0), -1);
                due("19: to " + n, g.least(0, 0, n), -1);
                due("19: of no question", g.least(1, n, 0), -1);
                due("19: of no way", g.least(3, 0, n), -1);
            }
            for (int q : new int[] {-1, 4, LEAST, MOST}) {
                due("19: q " + q, g.least(q, 0, 0), -1);
            }
            due("19: the last node", g.least(0, count - 1, count - 1), 0);
            due("19: no question", g.least(1, 0, 0), -2);
            due("19: no question", g.least(2, 0, 0), -2);
            due("19: no way", g.least(3, 0, 0), -2);
        }
    }

    private static void leastNoneToMost() {
        PathQueries g = nodes(16);
        for (int n = 0; n < 16; n++) {
            g.arc(n, (n + 1) % 16, 0, 0);
        }
        Check.question(g, 0, "match (x)-[a*]->(y) give x");
        Check.question(g, 1, "match (x)-[a+]->(y) give x");
        Check.question(g, 2, "match (x)-[(a a a a a a a a a a a a a a a)+]->(y) give x");
        Check.question(g, 3, "match (x)-[b]->(y) give x");
        due("19: none at all", g.least(0, 3, 3), 0);
        due("19: one", g.least(0, 15, 0), 1);
        due("19: all but one", g.least(0, 1, 0), 15);
        due("19: once round", g.least(1, 3, 3), 16);
        due("19: fifteen times round", g.least(2, 3, 3), 240);
        due("19: there is none", g.least(3, 0, 1), -2);
        Check.question(g, 3, "match (x) where no (y)<-[a a]-(z) or no (x)-[a]->(y) give x");
        due("19: the first of all, in a no", g.least(3, 2, 0), 2);
        due("19: turned", g.least(3, 0, 2), -2);
    }

    /** All ten ways have to be there: the last one decides. */
    private static void tenWaysMean() {
        String text = "match (x)" + "-[a]->(y)-[a]->(x)".repeat(4) + "-[a]->(y)<-[b]-(z) give x, y, z";
        PathQueries g = nodes(3);
        g.arc(0, 1, 0, 0);
        g.arc(1, 0, 0, 0);
        CHECK.dueAnswer(g, text, "");
        g.arc(2, 1, 1, 0);
        CHECK.dueAnswer(g, text, "0 1 2");
        g.arc(0, 0, 1, 0);
        CHECK.dueAnswer(g, text, "0 1 2; 1 0 0");
        CHECK.dueAnswer(g, "match (x)" + "-[_]->(x)".repeat(9) + " where no (x)-[b]->(x) give x", "");
        CHECK.dueAnswer(g, "match (x)" + "-[_]->(x)".repeat(9) + " where no (x)-[a]->(x) give x", "0");
    }

    private static void sixteenStepsMean() {
        PathQueries g = nodes(16);
        for (int n = 0; n < 16; n++) {
            g.arc(n, (n + 1) % 16, 0, 0);
        }
        String fifteen = "match (x)-[a a a a a a a a a a a a a a a ";
        CHECK.dueAnswer(g, fifteen + "a]->(y) where x = 3 give y", "3");
        CHECK.dueAnswer(g, fifteen + "^a]->(y) where x = 3 give y", "1");
        CHECK.dueAnswer(g, fifteen + "b]->(y) where x = 3 give y", "");
        CHECK.dueAnswer(g, fifteen + "a?]->(y) where x = 3 give y", "2; 3");
        CHECK.dueAnswer(g, "match (x)-least w[" + "a?".repeat(16) + "]->(y) where x = 3 and w > 13 give y, w", "1 14; 2 15");
    }

    private static void eightNamesMean() {
        String text = "match (x)-[a]->(y)-[a]->(z)-[a]->(u)-[a]->(v)-[a]->(w)-[a]->(x1)-[a]->(x9)";
        PathQueries g = nodes(3);
        for (int n = 0; n < 3; n++) {
            g.arc(n, (n + 1) % 3, 0, 0);
        }
        CHECK.dueAnswer(g, text + " give x, y, z, u, v, w, x1, x9", "0 1 2 0 1 2 0 1; 1 2 0 1 2 0 1 2; 2 0 1 2 0 1 2 0");
        CHECK.dueAnswer(g, text + " where x9 = 0 give x", "2");
        CHECK.dueAnswer(g, "match (), (), (), (), (), (), ()-[a]->(x) give x, count", "0 729; 1 729; 2 729");
    }

    private static void eightItemsMean() {
        CHECK.dueAnswer(nodes(2), "match (x) give 1, 2, 3, 4, 5, 6, 7, x", "1 2 3 4 5 6 7 0; 1 2 3 4 5 6 7 1");
        CHECK.dueAnswer(nodes(2), "match (x) give 0, 0, 0, 0, 0, 0, 0, max x", "0 0 0 0 0 0 0 1");
        CHECK.dueAnswer(nodes(2), "match (x) give count, sum x, min x, max x, count, sum 9, min -x, max -x", "2 1 0 1 2 18 -1 0");
    }

    private static void tenOpenOnesMean() {
        value("-".repeat(10) + "7", 7);
        value("-".repeat(9) + "7", -7);
        value("(1 - ".repeat(10) + "7" + ")".repeat(10), 7);
        value("(1 - ".repeat(9) + "7" + ")".repeat(9), -6);
        PathQueries g = nodes(3);
        CHECK.dueAnswer(g, "match (x) where " + "not ".repeat(10) + "x = 1 give x", "1");
        CHECK.dueAnswer(g, "match (x) where " + "not ".repeat(9) + "x = 1 give x", "0; 2");
        CHECK.dueAnswer(g, "match (x) where " + "[".repeat(10) + "x = 1" + "]".repeat(10) + " give x", "1");
        CHECK.dueAnswer(g, "match (x) where " + "[x < 1 or ".repeat(10) + "x = 1" + "]".repeat(10) + " give x", "0; 1");
        CHECK.dueAnswer(g, "match (x) where " + "[x < 2 and ".repeat(10) + "x > 0" + "]".repeat(10) + " give x", "1");
        g.arc(0, 1, 0, 0);
        g.arc(1, 2, 0, 0);
        CHECK.dueAnswer(g, "match (x)-[" + "(".repeat(10) + "a" + ")+".repeat(10) + "]->(y) give x, y", "0 1; 0 2; 1 2");
        CHECK.dueAnswer(g, "match (x)-[" + "(b|".repeat(10) + "a" + ")".repeat(10) + "]->(y) give x, y", "0 1; 1 2");
        CHECK.dueAnswer(g, "match (x)-[" + "(a|".repeat(10) + "b" + ")?".repeat(10) + "]->(y) give x, y", "0 0; 0 1; 1 1; 1 2; 2 2");
    }

    /** As many absences as a text has room for, each with its own marks. */
    private static void manyAbsencesMean() {
        PathQueries g = nodes(2);
        g.mark(1, 1);
        String many = "match (x) where no (x:m1)" + " and no (x:m1)".repeat(25);
        CHECK.dueAnswer(g, many + " give x", "0; 1");
        CHECK.dueAnswer(g, many + " and no (x:m0) give x", "0");
        CHECK.dueAnswer(g, "match (x) where no (x)" + " and no (x)".repeat(35) + " or no (x:m0) give x", "0");
        CHECK.dueAnswer(g, "match (x:m0)" + ", (x:m0)".repeat(30) + " give x", "1");
        CHECK.dueAnswer(g, "match (x:m0)" + ", (x:m0)".repeat(30) + ", (x:m1) give x", "");
        CHECK.dueAnswer(g, "match (x" + ":m0".repeat(90) + ") give x", "1");
        CHECK.dueAnswer(g, "match (x" + ":m0".repeat(90) + ":m1) give x", "");
    }

    private static void twoHundredTokensMean() {
        PathQueries g = nodes(2);
        String head = "match (x) where x < 2" + " and x < 2".repeat(47);
        CHECK.dueAnswer(g, head + " give x, 1", "0 1; 1 1");
        CHECK.dueAnswer(g, head.substring(0, head.length() - 1) + "1 give x, 1", "0 1");
        CHECK.dueAnswer(g, "match (x) give x" + " + 1".repeat(97), "97; 98");
        CHECK.dueAnswer(g, "match (x) give x" + " - 1 * 2".repeat(48) + " - 1", "-97; -96");
        CHECK.dueAnswer(g, "match (x) give " + "-x * ".repeat(64) + "-x", "-1; 0");
    }
}
