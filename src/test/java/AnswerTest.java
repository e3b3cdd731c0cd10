/** Promises 15 and 16, and what '3 WHAT IT MEANS' says of questions. */
public final class AnswerTest {
    private static final Check CHECK = new Check();
    private static final int NONE = 2000000000;

    public static void main(String[] args) {
        ask();
        answer();
        staleness();
        nodesAndMarks();
        ways();
        leasts();
        values();
        conditions();
        absences();
        folds();
        limits();
        work();
        CHECK.end("AnswerTest");
    }

    private static void due(String call, long got, long want) {
        CHECK.due(call, got, want);
    }

    /** 0 -a-> 1 -b-> 2 -a-> 0, 2 -c-> 3, 3 -a-> 3, 0 -a-> 1 once more, 1 -b-> 3. */
    private static PathQueries graph() {
        PathQueries g = new PathQueries();
        g.node(1);
        g.node(2);
        g.node(3);
        g.node(0);
        g.put(0, 0, 5);
        g.put(1, 0, -3);
        g.put(2, 1, 7);
        g.put(3, 0, 5);
        g.arc(0, 1, 0, 3);
        g.arc(1, 2, 1, 4);
        g.arc(2, 0, 0, 5);
        g.arc(2, 3, 2, 0);
        g.arc(3, 3, 0, 99);
        g.arc(0, 1, 0, 1);
        g.arc(1, 3, 1, 2);
        return g;
    }

    private static PathQueries nodes(int count) {
        PathQueries g = new PathQueries();
        for (int i = 0; i < count; i++) {
            g.node(0);
        }
        return g;
    }

    private static void is(String text, String want) {
        CHECK.dueAnswer(graph(), text, want);
    }

    private static void ask() {
        PathQueries g = graph();
        due("15: no such", g.ask(4), -1);
        due("15: no such", g.ask(-1), -1);
        due("15: no question", g.ask(0), -2);
        Check.question(g, 0, "match (x)-[a]->(y) give x, y");
        due("15: rows", g.ask(0), 3);
        due("15: rows once more", g.ask(0), 3);
        g.arc(3, 0, 0, 0);
        due("15: rows now", g.ask(0), 4);
        g.drop(0);
        due("15: one of two alike went", g.ask(0), 4);
        g.drop(5);
        due("15: both went", g.ask(0), 3);
        due("15: the others are none", g.ask(1), -2);
        PathQueries empty = new PathQueries();
        Check.question(empty, 2, "match (x) give x");
        due("15: no nodes", empty.ask(2), 0);
        Check.question(empty, 2, "match (x) give count");
        due("15: no nodes to count", empty.ask(2), 0);
    }

    private static void answer() {
        PathQueries g = graph();
        due("16: no question", g.answer(0, 0, 0), NONE);
        Check.question(g, 1, "match (x)-[a]->(y) give y, x");
        due("16: not asked", g.answer(1, 0, 0), NONE);
        g.ask(1);
        int[] want = {0, 2, 1, 0, 3, 3};
        for (int i = 0; i < 6; i++) {
            due("16: answer", g.answer(1, i / 2, i % 2), want[i]);
        }
        due("16: no row", g.answer(1, 3, 0), NONE);
        due("16: no row", g.answer(1, -1, 0), NONE);
        due("16: no item", g.answer(1, 0, 2), NONE);
        due("16: no item", g.answer(1, 0, -1), NONE);
        due("16: no question", g.answer(4, 0, 0), NONE);
        due("16: no question", g.answer(-1, 0, 0), NONE);
        due("16: another one", g.answer(0, 0, 0), NONE);
        due("16: far", g.answer(1, Integer.MAX_VALUE, Integer.MIN_VALUE), NONE);
    }

    private static void staleness() {
        PathQueries g = graph();
        for (int change = 0; change < 12; change++) {
            Check.question(g, 0, "match (x) give x");
            due("16: ask", g.ask(0), change > 0 ? 5 : 4);
            due("16: fresh", g.answer(0, 1, 0), 1);
            change(g, change);
            due("16: changed by " + change, g.answer(0, 1, 0), NONE);
            g.ask(0);
            due("16: asked anew", g.answer(0, 1, 0), 1);
        }
        bareOfNoArcs();
        g.node(256);
        g.mark(9, 1);
        g.put(0, 4, 0);
        g.arc(0, 0, 8, 0);
        g.drop(77);
        g.bare(9);
        g.forget(3);
        g.forget(4);
        due("16: nothing changed by refused calls", g.answer(0, 1, 0), 1);
        Check.question(g, 0, "match (x) give");
        Check.rule(g, "rule A match (x) give x");
        due("16: nor by texts with faults", g.answer(0, 1, 0), 1);
        Check.question(g, 1, "match (x) give x");
        g.told(0, 0);
        g.leads(0, 0, 9);
        g.pairs(0);
        g.least(0, 0, 0);
        g.ask(1);
        due("16: nor by other questions", g.answer(0, 1, 0), 1);
        Check.question(g, 0, "match (x) give x");
        due("16: but by a new one in its place", g.answer(0, 1, 0), NONE);
        due("16: the other one stands", g.answer(1, 1, 0), 1);
    }

    private static void bareOfNoArcs() {
        PathQueries g = nodes(2);
        g.mark(1, 4);
        Check.question(g, 0, "match (x:m2) give x");
        due("16: ask", g.ask(0), 1);
        due("10: no arcs went", g.bare(1), 0);
        due("16: its marks did", g.answer(0, 0, 0), NONE);
        due("15: rows now", g.ask(0), 0);
    }

    private static void change(PathQueries g, int what) {
        switch (what) {
            case 0 -> g.node(0);
            case 1 -> g.mark(0, 7);
            case 2 -> g.put(0, 0, 1);
            case 3 -> g.arc(0, 0, 0, 0);
            case 4 -> g.drop(0);
            case 5 -> g.bare(3);
            case 6 -> Check.rule(g, "rule B match (x) give x, x");
            case 7 -> Check.rule(g, "rule B match (x), (y) give x, y");
            case 8 -> g.forget(1);
            case 9 -> g.mark(0, 7);
            case 10 -> g.put(0, 0, 1);
            default -> Check.question(g, 0, "match (y) give y");
        }
    }

    private static void nodesAndMarks() {
        is("match (x) give x", "0; 1; 2; 3");
        is("match (x:m0) give x", "0; 2");
        is("match (x:m1) give x", "1; 2");
        is("match (x:m0:m1) give x", "2");
        is("match (x:m7) give x", "");
        is("match (x:m0), (x:m1) give x", "2");
        is("match (x:m0)-[a]->(x) give x", "");
        is("match (x:m0)-[_ _ _]->(x) give x", "0; 2");
        is("match (x)-[_]->(x)-[b]->(x) give x", "");
        is("match (x)-[b]->(y:m0) give x, y", "1 2");
        is("match (x)<-[b]-(y:m0) give x, y", "");
        is("match (x:m0)<-[b]-(y:m1) give x, y", "2 1");
        is("match (x)-[b]->(y), (x)-[_ a]->(y) give x, y", "1 3");
        is("match (x)-[_]->(y), (y)<-[b]-(z), (y:m1) give x, y, z", "1 2 1");
        is("match (:m0) give 1, count", "1 2");
        is("match (), () give count", "16");
        is("match (x), () give x, count", "0 4; 1 4; 2 4; 3 4");
        is("match (x:m0), (y:m1) give x, y", "0 1; 0 2; 2 1; 2 2");
        is("match ()-[a]->(x) give x, count", "0 1; 1 1; 3 1");
        is("match ()-[_]->(x)<-[_]-() give x, count", "0 1; 1 1; 2 1; 3 9");
    }

    private static void ways() {
        is("match (x)-[a]->(y) give x, y", "0 1; 2 0; 3 3");
        is("match (x)<-[a]-(y) give x, y", "0 2; 1 0; 3 3");
        is("match (x)-[^a]->(y) give x, y", "0 2; 1 0; 3 3");
        is("match (x)<-[^a]-(y) give x, y", "0 1; 2 0; 3 3");
        is("match (x)-[_]->(y) give x, y", "0 1; 1 2; 1 3; 2 0; 2 3; 3 3");
        is("match (x)-[^_]->(y) give x, y", "0 2; 1 0; 2 1; 3 1; 3 2; 3 3");
        is("match (x)-[a b]->(y) give x, y", "0 2; 0 3");
        is("match (x)<-[a b]-(y) give x, y", "2 0; 3 0");
        is("match (x)-[a|c]->(y) give x, y", "0 1; 2 0; 2 3; 3 3");
        is("match (x)-[a b|c]->(y) give x, y", "0 2; 0 3; 2 3");
        is("match (x)-[a (b|c)]->(y) give x, y", "0 2; 0 3");
        is("match (x)-[a?]->(y) give x, y", "0 0; 0 1; 1 1; 2 0; 2 2; 3 3");
        is("match (x)-[h*]->(y) give x, y", "0 0; 1 1; 2 2; 3 3");
        is("match (x)-[h+]->(y) give x, y", "");
        is("match (x)-[a+]->(y) give x, y", "0 1; 2 0; 2 1; 3 3");
        is("match (x)-[(a b)+]->(y) give x, y", "0 2; 0 3");
        is("match (x)-[(a b a)*]->(y) give x, y", "0 0; 0 3; 1 1; 2 2; 3 3");
        is("match (x)-[b ^b]->(y) give x, y", "1 1");
        is("match (x)-[a? b]->(y) give x, y", "0 2; 0 3; 1 2; 1 3");
        is("match (x)-[a* b]->(y) give x, y", "0 2; 0 3; 1 2; 1 3; 2 2; 2 3");
        is("match (x)-[b a?]->(y) give x, y", "1 0; 1 2; 1 3");
        is("match (x)-[a? b? c?]->(y) where x = 0 give y", "0; 1; 2; 3");
        is("match (x)-[(a|c)? (b|c)]->(y) give x, y", "0 2; 0 3; 1 2; 1 3; 2 3");
        is("match (x)-[^b b]->(y) give x, y", "2 2; 2 3; 3 2; 3 3");
        is("match (x:m0)-[_]->(y)-[_]->(z) give x, y, z", "0 1 2; 0 1 3; 2 0 1; 2 3 3");
        is("match (x)-[_]->(x) give x", "3");
        is("match (x)-[_ _ _]->(x) give x", "0; 1; 2; 3");
        is("match (x)-[a]->(y), (y)-[b]->(x) give x, y", "");
        is("match (x)-[a]->(y)-[b]->(z)-[a]->(x) give x, y, z", "0 1 2");
        is("match (x)-[A]->(y) give x, y", "");
        is("match (x)-[A*]->(y) give x, y", "0 0; 1 1; 2 2; 3 3");
    }

    private static void leasts() {
        is("match (x)-least w[_*]->(y) where x = 0 give y, w", "0 0; 1 1; 2 2; 3 2");
        is("match (x)-least w[_+]->(y) where x = 0 give y, w", "0 3; 1 1; 2 2; 3 2");
        is("match (x)-least w[a|a b c|b]->(y) where x = 0 give y, w", "1 1; 3 3");
        is("match (x)<-least w[_*]-(y) where x = 0 give y, w", "0 0; 1 2; 2 1");
        is("match (x)-least w[(a|b|c)*]->(y) give w, count", "0 4; 1 5; 2 4");
        is("match (x)-least w[a]->(y)-least v[_ _]->(z) give w + v, x, z", "3 0 0; 3 0 3; 3 2 2; 3 2 3; 3 3 3");
        is("match (x)-least w[a]->(y)-least v[_ _]->(z) give 10 * w + v, w - v, x limit 1", "12 -1 0");
        is("match (x)-[a]->(y)-least v[b a]->(z)-least w[_*]->(x) give v * 10 + w, x, z", "20 0 0");
        is("match (x)-least w[a (b a)*]->(y) where w > 1 give x, y, w", "0 0 3; 0 3 3");
    }

    private static void values() {
        is("match (x) where x = 1 give 2 + 3 * 4 - 5, (2 + 3) * 4, 2 - 3 - 4, -2 * -3, --4, -x.c0", "9 20 -5 6 4 3");
        is("match (x) where x = 1 give -x.c0 * 2, 2 * -x, -(x + 1) - -(2), - - -1", "6 -2 0 -1");
        is("match (x) give x.c0, x.c1, x.c2, x.c3", "-3 0 0 0; 0 7 0 0; 5 0 0 0");
        is("match (x) where x = 0 give 9999 * 9999, 9999 * 9999 * 9999, -9999 * 9999 * 9999", "99980001 1000000000 -1000000000");
        is("match (x) where x = 0 give 9999 * 9999 * 9999 + 1 - 1, 9999 * 9999 * 9999 - 1 + 1", "999999999 1000000000");
        is("match (x) where x = 0 give -9999*9999*11 - 1, 0 - 9999*9999*10, 9999*9999*9999*-1", "-1000000000 -999800010 -1000000000");
        is("match (x) where x = 0 give 9999*9999*9999*(9999*9999*9999)", "1000000000");
        is("match (x) give 7", "7");
        is("match (x), (y) give x * y", "0; 1; 2; 3; 4; 6; 9");
        is("match (x), (y) give y - x, x limit 3", "-3 3; -2 2; -2 3");
    }

    private static void conditions() {
        is("match (x) where x = 2 give x", "2");
        is("match (x) where x != 2 give x", "0; 1; 3");
        is("match (x) where x < 2 give x", "0; 1");
        is("match (x) where x <= 2 give x", "0; 1; 2");
        is("match (x) where x > 2 give x", "3");
        is("match (x) where x >= 2 give x", "2; 3");
        is("match (x) where not x = 2 give x", "0; 1; 3");
        is("match (x) where not x != 2 give x", "2");
        is("match (x) where not x < 2 give x", "2; 3");
        is("match (x) where not x <= 2 give x", "3");
        is("match (x) where not x > 2 give x", "0; 1; 2");
        is("match (x) where not x >= 2 give x", "0; 1");
        is("match (x) where not not x >= 2 give x", "2; 3");
        is("match (x) where x = 0 or x = 1 and x = 2 give x", "0");
        is("match (x) where [x = 0 or x = 1] and x < 1 give x", "0");
        is("match (x) where x = 0 and x = 1 or x = 2 or x = 3 and not x = 3 give x", "2");
        is("match (x) where not x = 0 and not [x = 1 or x = 2] give x", "3");
        is("match (x) where not [x = 0 and x.c0 = 5] and x.c0 = 5 give x", "3");
        is("match (x) where x = 0 or x = 1 or x = 2 give x", "0; 1; 2");
        is("match (x) where x + 1 = 2 and 2 * x = x + 1 give x", "1");
        is("match (x) where x = 1 + 1 give x", "2");
        is("match (x) where 2 * x = x + 1 give x", "1");
        is("match (x) where x < 3 - 1 and not x > -x + 1 give x", "0");
        is("match (x) where x != 2 - 1 * 2 give x", "1; 2; 3");
        is("match (x), (y) where x != y and x.c0 = y.c0 give x, y", "0 3; 3 0");
        is("match (x) where 1 = 2 give x", "");
    }

    private static void absences() {
        is("match (x) where no (x)-[a]->(y) give x", "1");
        is("match (x) where no (y)-[a]->(x) give x", "2");
        is("match (x) where no ()-[a]->(x) give x", "2");
        is("match (x) where no (x:m0) give x", "1; 3");
        is("match (x) where no (y:m7) give x", "0; 1; 2; 3");
        is("match (x) where no (y:m0) give x", "");
        is("match (x), (y) where x < y and no (x)-[_]->(y) give x, y", "0 2; 0 3");
        is("match (x) where not no (x)-[b]->(y:m0) give x", "1");
        is("match (x) where no (x)-[a]->(y) or no (y)-[a]->(x) give x", "1; 2");
        is("match (x) where no (x)-[a]->(y)-[a]->(z) give x", "0; 1");
        is("match (x) where no (x)-[_]->(x) give x", "0; 1; 2");
        // Of the first node two rows fit, and only one of them is looked at.
        is("match (x) where no (x)-[a]->(y)-[b]->(z) give x", "1; 2; 3");
        is("match (x) where not no (z:m0)-[a]->(x) and not no (z:m1)-[a]->(x) give x", "0");
        is("match (x) where no (z:m0)-[c]->(x) and not no (z:m1)-[b]->(x) give x", "2");
        is("match (x) where x = 0 and no (z:m7) and not no (z:m1) give x", "0");
        is("match (x) where no (x)-least w[b]->(y:m0:m1) give x", "0; 2; 3");
        is("match (x), (y) where no (z)-[_]->(x:m0)-[_*]->(y) give x, y", "1 0; 1 1; 1 2; 1 3; 3 0; 3 1; 3 2; 3 3");
    }

    private static void folds() {
        is("match (x)-[_]->(y) give x, count", "0 1; 1 2; 2 2; 3 1");
        is("match (x)-[_]->(y) give count, x", "1 0; 1 3; 2 1; 2 2");
        is("match (x)-[_]->(y) give count", "6");
        is("match (x)-[_]->(y) give x, sum y, min y, max y, count", "0 1 1 1 1; 1 5 2 3 2; 2 3 0 3 2; 3 3 3 3 1");
        is("match (x)-[_]->(y) give sum x, max y - x, min y.c0", "9 2 -3");
        is("match (x) give x.c0, sum 1, max x", "-3 1 1; 0 1 2; 5 2 3");
        is("match (x) where x > 5 give count", "");
        is("match (x) where x > 5 give sum x, min x, max x", "");
        is("match (x) give count, count, sum x, sum x * x", "4 4 6 14");
        is("match (x) give sum 9999*9999*9999 - 9999*9999*9999 * x", "1000000000");
        is("match (x) give sum 9999*9999*9, min -x, max -x", "1000000000 -3 0");
        is("match (x), (y) where y < 2 give sum (1 - y - y) * 9999 * 9999 * 9999", "0");
        is("match (x), (), () give x, count, sum 1", "0 16 16; 1 16 16; 2 16 16; 3 16 16");
    }

    private static void limits() {
        is("match (x) give x limit 2", "0; 1");
        is("match (x) give x limit 4", "0; 1; 2; 3");
        is("match (x) give x limit 9999", "0; 1; 2; 3");
        is("match (x) give -x limit 1", "-3");
        is("match (x)-[_]->(y) give count, x limit 3", "1 0; 1 3; 2 1");
        PathQueries g = graph();
        Check.question(g, 0, "match (x) give x limit 2");
        due("limit", g.ask(0), 2);
        due("within", g.answer(0, 1, 0), 1);
        due("beyond", g.answer(0, 2, 0), NONE);
    }

    /** So many nodes, to the power of the variables, may be 20000 and no more. */
    private static void work() {
        int[] most = {0, 16, 16, 16, 11, 7, 5, 4, 3};
        String[] names = {"x", "y", "z", "u", "v", "w", "x1", "y1"};
        for (int vars = 1; vars <= 8; vars++) {
            StringBuilder text = new StringBuilder("match (x)");
            for (int i = 1; i < vars; i++) {
                text.append(i % 2 == 0 ? ", ()" : ", (" + names[i] + ")");
            }
            PathQueries g = nodes(most[vars]);
            Check.question(g, 0, text + " give count");
            due("15: one row of " + vars, g.ask(0), 1);
            due("15: all rows of " + vars, g.answer(0, 0, 0), (long) Math.pow(most[vars], vars));
            if (most[vars] < 16) {
                g.node(0);
                due("15: large of " + vars, g.ask(0), -4);
            }
        }
        workOfAbsences();
    }

    private static void workOfAbsences() {
        PathQueries g = nodes(12);
        Check.question(g, 0, "match (x), (y) where no (z) give x");
        Check.question(g, 1, "match (x), (y) where no (z)-[a]->(u) give x");
        Check.question(g, 2, "match (x)-least w[a*]->(y)-least v[a*]->(z) give x, w, v");
        Check.question(g, 3, "match (x), (y) where no (z:m1) and no (z:m2) give x, y");
        due("15: of three", g.ask(0), 0);
        due("15: of four, with no", g.ask(1), -4);
        due("15: those of least don't count", g.ask(2), 12);
        due("15: the same name counts once", g.ask(3), 144);
        due("16: none since it was large", g.answer(1, 0, 0), NONE);
        PathQueries all = nodes(16);
        Check.question(all, 0, "match (x), (y), (z) give x, y, z, z + 1, -x, -y, -z, 7");
        due("15: all rows", all.ask(0), 4096);
        due("16: the last", all.answer(0, 4095, 2), 15);
        due("16: the last", all.answer(0, 4095, 3), 16);
        due("16: in between", all.answer(0, 16 * 16 * 3 + 16 * 4 + 5, 1), 4);
    }
}
