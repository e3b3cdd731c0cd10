/** Promises 12, 13, 17 and 18, and what '3 WHAT IT MEANS' says of rules and their work. */
public final class RuleTest {
    private static final Check CHECK = new Check();

    public static void main(String[] args) {
        closure();
        replaced();
        forget();
        leads();
        pairs();
        rounds();
        stays();
        large();
        largeRounds();
        tenWays();
        changes();
        CHECK.end("RuleTest");
    }

    private static void due(String call, long got, long want) {
        CHECK.due(call, got, want);
    }

    private static PathQueries chain(int nodes, int arcs) {
        PathQueries g = new PathQueries();
        for (int i = 0; i < nodes; i++) {
            g.node(0);
        }
        for (int i = 0; i < arcs; i++) {
            g.arc(i, i + 1, 0, 0);
        }
        return g;
    }

    private static void closure() {
        PathQueries g = chain(5, 4);
        due("12: rule", Check.rule(g, "rule A match (x)-[a|A a]->(y) give x, y"), 0);
        due("18: pairs", g.pairs(0), 10);
        CHECK.dueAnswer(g, "match (x)-[A]->(y) where x = 0 give y", "1; 2; 3; 4");
        CHECK.dueAnswer(g, "match (x)-[^A]->(y) where x = 4 give y", "0; 1; 2; 3");
        CHECK.dueAnswer(g, "match (x)<-[A]-(y) where x = 1 give y", "0");
        CHECK.dueAnswer(g, "match (x)-least w[A*]->(y) where x = 0 give y, w", "0 0; 1 1; 2 1; 3 1; 4 1");
        CHECK.dueAnswer(g, "match (x)-[_ _]->(y) where x = 0 give y", "2");
        CHECK.dueAnswer(g, "match (x)-[_]->(y) where x = 0 give y", "1");
        due("12: turned", Check.rule(g, "rule B match (x)-[A]->(y) give y, x"), 1);
        due("17: turned", g.leads(4, 0, 9), 1);
        due("17: not so", g.leads(0, 4, 9), 0);
        due("12: to itself", Check.rule(g, "rule C match (x)-[B]->(y) give x, x"), 2);
        due("18: to itself", g.pairs(2), 4);
        due("18: as before", g.pairs(0), 10);
    }

    private static void replaced() {
        PathQueries g = chain(3, 2);
        Check.rule(g, "rule D match (x)-[a]->(y) give x, y");
        due("18: pairs", g.pairs(3), 2);
        Check.rule(g, "rule D match (x)-[a a]->(y) give x, y");
        due("18: in its place", g.pairs(3), 1);
        due("17: its arc", g.leads(0, 2, 11), 1);
        due("17: not the one before", g.leads(0, 1, 11), 0);
        due("9: rules", g.told(2, 0), 1);
        due("9: no arcs with numbers", g.told(1, 0), 2);
        due("9: none from it", g.told(8, 0), 1);
    }

    private static void forget() {
        PathQueries g = chain(3, 2);
        due("13: none such", g.forget(4), -1);
        due("13: none such", g.forget(-1), -1);
        due("13: there is none", g.forget(0), -2);
        Check.rule(g, "rule A match (x)-[a]->(y) give x, y");
        Check.rule(g, "rule B match (x)-[A]->(y) give x, y");
        due("18: pairs", g.pairs(1), 2);
        due("13: forget", g.forget(0), 1);
        due("13: once more", g.forget(0), -2);
        due("18: gone", g.pairs(0), -2);
        due("18: the other has none then", g.pairs(1), 0);
        due("17: a label without a rule has none", g.leads(0, 1, 8), 0);
        due("9: rules", g.told(2, 0), 1);
        CHECK.dueAnswer(g, "match (x)-[A]->(y) give x", "");
        Check.rule(g, "rule A match (x)-[a a]->(y) give x, y");
        due("18: a new one", g.pairs(1), 1);
    }

    private static void leads() {
        PathQueries g = chain(3, 2);
        g.arc(0, 1, 0, 5);
        g.arc(0, 1, 1, 5);
        g.arc(2, 2, 7, 5);
        due("17: two", g.leads(0, 1, 0), 2);
        due("17: one", g.leads(0, 1, 1), 1);
        due("17: to itself", g.leads(2, 2, 7), 1);
        due("17: not back", g.leads(1, 0, 0), 0);
        due("17: no rule", g.leads(0, 1, 8), 0);
        due("17: no rule", g.leads(0, 1, 11), 0);
        due("17: no label", g.leads(0, 1, 12), -1);
        due("17: no label", g.leads(0, 1, -1), -1);
        due("17: no node", g.leads(3, 1, 0), -1);
        due("17: no node", g.leads(0, 3, 0), -1);
        due("17: no node", g.leads(-1, 1, 8), -1);
        due("17: no node", g.leads(0, -1, 8), -1);
        Check.rule(g, "rule B match (x)-[_ _]->(y) give x, y");
        due("17: of a rule", g.leads(0, 2, 9), 1);
        due("17: of a rule, once", g.leads(2, 2, 9), 1);
        due("17: none of a rule", g.leads(0, 1, 9), 0);
    }

    private static void pairs() {
        PathQueries g = chain(3, 2);
        due("18: none such", g.pairs(4), -1);
        due("18: none such", g.pairs(-1), -1);
        due("18: no rule", g.pairs(2), -2);
        Check.rule(g, "rule C match (x), (y) where x < y give x, y");
        due("18: pairs", g.pairs(2), 3);
        g.node(0);
        due("18: told anew", g.pairs(2), 6);
        Check.rule(g, "rule C match (x) where x > 9 give x, x");
        due("18: none", g.pairs(2), 0);
        PathQueries empty = new PathQueries();
        Check.rule(empty, "rule A match (x) give x, x");
        due("18: no nodes", empty.pairs(0), 0);
    }

    /** What rules give in a round is there for the others in the next one alone. */
    private static void rounds() {
        PathQueries g = chain(4, 3);
        Check.rule(g, "rule A match (x)-[a]->(y) give x, y");
        Check.rule(g, "rule B match (x)-least w[a+|A]->(y) where w = 2 give x, y");
        Check.rule(g, "rule C match (x)-least w[(a|A)+]->(y) where w = 3 give x, y");
        due("18: first", g.pairs(0), 3);
        due("18: second", g.pairs(1), 2);
        due("18: third", g.pairs(2), 1);
        Check.rule(g, "rule A match (x)-[a a]->(y) give x, y");
        due("18: the round's arcs are those before it", g.pairs(2), 1);
        due("17: it stays", g.leads(0, 3, 10), 1);
    }

    private static void stays() {
        PathQueries g = chain(3, 2);
        Check.rule(g, "rule A match (x)-[a a]->(y) give x, y");
        Check.rule(g, "rule B match (x)-least w[(a|A)+]->(y) where w = 2 give x, y");
        due("17: it was so in the first round", g.leads(0, 2, 9), 1);
        CHECK.dueAnswer(g, "match (x)-least w[(a|A)+]->(y) where x = 0 and y = 2 give w", "1");
    }

    private static void large() {
        PathQueries g = chain(11, 10);
        Check.question(g, 0, "match (x)-[a]->(y) give x");
        Check.question(g, 1, "match (x) give x");
        Check.rule(g, "rule B match (x), (y), (z), () give x, y");
        due("18: not large", g.pairs(1), 121);
        due("15: not large", g.ask(0), 10);
        g.node(0);
        due("18: large", g.pairs(1), -4);
        due("18: no such rule", g.pairs(0), -2);
        due("17: large", g.leads(0, 1, 9), -4);
        due("17: of any rule's", g.leads(0, 1, 8), -4);
        due("17: not those told", g.leads(0, 1, 0), 1);
        due("15: a rule is large", g.ask(0), -4);
        due("15: no question", g.ask(2), -2);
        due("19: a rule is large", g.least(0, 0, 1), -4);
        due("19: no way", g.least(1, 0, 1), -2);
        due("16: none", g.answer(0, 0, 0), 2000000000);
        g.forget(1);
        due("15: not large any more", g.ask(0), 10);
        due("19: nor this", g.least(0, 0, 1), 1);
        Check.rule(g, "rule C match (x), (y), (z) where no (u)-[b]->(u) give x, y");
        due("18: those of no count, too", g.pairs(2), -4);
        Check.rule(g, "rule C match (x)-least w[a+]->(y)-least v[a+]->(z) give x, z");
        due("18: those of least don't", g.pairs(2), 45);
    }

    /** Four rules of 10000 each; a hop takes four rounds, and 25 rounds are just not too many. */
    private static void largeRounds() {
        for (int hops = 4; hops <= 6; hops++) {
            PathQueries g = chain(10, hops);
            g.arc(0, 0, 1, 0);
            Check.rule(g, "rule A match (x)-[D a|b]->(y), (z), () give x, y");
            Check.rule(g, "rule B match (x)-[A]->(y), (z), () give x, y");
            Check.rule(g, "rule C match (x)-[B]->(y), (z), () give x, y");
            Check.rule(g, "rule D match (x)-[C]->(y), (z), () give x, y");
            Check.question(g, 0, "match (x)-[D]->(y) give x, y");
            due("18: rounds of " + hops, g.pairs(3), hops <= 5 ? hops + 1 : -4);
            due("15: rounds of " + hops, g.ask(0), hops <= 5 ? hops + 1 : -4);
            due("17: rounds of " + hops, g.leads(0, 1, 8), hops <= 5 ? 1 : -4);
            due("17: told ones", g.leads(0, 1, 0), 1);
            g.forget(3);
            due("18: fewer rounds", g.pairs(0), 1);
        }
        PathQueries g = chain(16, 15);
        Check.rule(g, "rule A match (x)-[a|A a]->(y) where no (z)-[h]->(z) give x, y");
        due("18: 16 rounds of 4096", g.pairs(0), 120);
    }

    /** All ten ways have to be there, those of rules' arcs that come late, too. */
    private static void tenWays() {
        PathQueries g = chain(3, 2);
        g.arc(2, 0, 0, 0);
        String nine = "(x)" + "-[a]->()<-[a]-(x)".repeat(4) + "-[a]->(y)";
        Check.rule(g, "rule A match " + nine + "-[B]->(z) give x, z");
        due("18: none", g.pairs(0), 0);
        Check.rule(g, "rule B match (x)-[a|C]->(y) where x != 1 give x, y");
        due("18: two", g.pairs(0), 2);
        due("17: one", g.leads(1, 0, 8), 1);
        due("17: the other", g.leads(2, 1, 8), 1);
        Check.rule(g, "rule C match (x)-[A]->(y) give x, y");
        due("18: one more by the third rule", g.pairs(0), 3);
        due("17: it comes late", g.leads(1, 1, 8), 1);
        due("18: those of the third rule", g.pairs(2), 3);
        Check.rule(g, "rule B match (x)-[b]->(y) give x, y");
        due("18: none again", g.pairs(0), 0);
    }

    private static void changes() {
        PathQueries g = chain(3, 2);
        Check.rule(g, "rule A match (x:m0)-[a+]->(y) where x.c0 < y.c0 give x, y");
        due("18: no mark", g.pairs(0), 0);
        g.mark(0, 1);
        due("18: no column", g.pairs(0), 0);
        g.put(2, 0, 5);
        due("18: one", g.pairs(0), 1);
        g.put(1, 0, 5);
        due("18: two", g.pairs(0), 2);
        g.drop(1);
        due("18: one again", g.pairs(0), 1);
        g.bare(0);
        due("18: none", g.pairs(0), 0);
    }
}
