/** Promise 19: the least number of arcs of a question's first way. */
public final class LeastTest {
    private static final Check CHECK = new Check();

    public static void main(String[] args) {
        ordinary();
        wrong();
        whichWay();
        longWays();
        CHECK.end("LeastTest");
    }

    private static void due(String call, long got, long want) {
        CHECK.due(call, got, want);
    }

    private static PathQueries ring(int nodes) {
        PathQueries g = new PathQueries();
        for (int i = 0; i < nodes; i++) {
            g.node(0);
        }
        for (int i = 0; i < nodes; i++) {
            g.arc(i, (i + 1) % nodes, 0, 0);
        }
        return g;
    }

    private static void ordinary() {
        PathQueries g = ring(5);
        Check.question(g, 0, "match (x)-[a*]->(y) give x");
        due("19: far", g.least(0, 0, 4), 4);
        due("19: none", g.least(0, 2, 2), 0);
        due("19: round", g.least(0, 3, 1), 3);
        Check.question(g, 0, "match (x)-[a+]->(y) give x");
        due("19: once round", g.least(0, 2, 2), 5);
        Check.question(g, 0, "match (x)<-[a*]-(y) give x");
        due("19: turned", g.least(0, 0, 4), 1);
        due("19: turned", g.least(0, 4, 0), 4);
        Check.question(g, 0, "match (x)-[(a|^a)*]->(y) give x");
        due("19: both ways", g.least(0, 0, 3), 2);
        Check.question(g, 0, "match (x)-[a a a?]->(y) give x");
        due("19: two", g.least(0, 0, 2), 2);
        due("19: three", g.least(0, 0, 3), 3);
        due("19: none", g.least(0, 0, 1), -2);
        g.arc(0, 2, 0, 0);
        Check.question(g, 0, "match (x)-[a+]->(y) give x");
        due("19: shorter", g.least(0, 0, 2), 1);
        g.drop(5);
        due("19: told anew", g.least(0, 0, 2), 2);
        Check.rule(g, "rule C match (x)-[a a]->(y) give x, y");
        Check.question(g, 1, "match (x)-[C*]->(y) give x");
        due("19: by a rule's arcs", g.least(1, 0, 4), 2);
        due("19: by a rule's arcs", g.least(1, 0, 1), 3);
    }

    private static void wrong() {
        PathQueries g = ring(3);
        due("19: no question", g.least(0, 0, 0), -2);
        due("19: none such", g.least(4, 0, 0), -1);
        due("19: none such", g.least(-1, 0, 0), -1);
        Check.question(g, 0, "match (x) give x");
        due("19: no way", g.least(0, 0, 0), -2);
        due("19: no node", g.least(0, 3, 0), -1);
        due("19: no node", g.least(0, 0, 3), -1);
        due("19: no node", g.least(0, -1, 0), -1);
        due("19: no node", g.least(0, 0, -1), -1);
        due("19: no node, no question", g.least(1, 3, 0), -1);
        Check.question(g, 0, "match (x)-[b]->(y) give x");
        due("19: there is none", g.least(0, 0, 1), -2);
    }

    private static void whichWay() {
        PathQueries g = ring(3);
        Check.question(g, 0, "match (x)-[a a]->(y)-[b]->(z) give x");
        due("19: the first one", g.least(0, 0, 2), 2);
        Check.question(g, 1, "match (x) where x = 1 and no (x)<-[a]-(y) give x");
        due("19: in a no", g.least(1, 1, 0), 1);
        due("19: in a no", g.least(1, 0, 1), -2);
        Check.question(g, 2, "match (x), (x)-least w[a? a?]->(x:m7) where no (x)-[b]->(x) give x");
        due("19: marks don't matter", g.least(2, 0, 2), 2);
        due("19: nor other ends", g.least(2, 0, 0), 0);
        Check.question(g, 3, "match (), (), (), (), (), (), ()-[a]->() give 1");
        g.node(0);
        due("19: nor the question's work", g.least(3, 0, 1), 1);
        due("15: which is large", g.ask(3), -4);
    }

    /** Two wheels of 15 and 16 that have to fit: the way goes round till they do. */
    private static void longWays() {
        PathQueries g = ring(16);
        Check.question(g, 0, "match (x)-[(a a a a a a a a a a a a a a a)+]->(y) give x");
        due("19: fifteen", g.least(0, 0, 15), 15);
        due("19: fifteen times sixteen", g.least(0, 0, 0), 240);
        due("19: fifteen times fifteen", g.least(0, 0, 1), 225);
        Check.question(g, 0, "match (x)-[(a a a a a a a a a a a a a a a a)+]->(y) give x");
        due("19: sixteen", g.least(0, 0, 0), 16);
        due("19: never", g.least(0, 0, 1), -2);
        mostArcs(g);
    }

    /** Sixteen steps that go on by one node in all: no least way can have more arcs. */
    private static void mostArcs(PathQueries g) {
        for (int n = 0; n < 16; n++) {
            g.arc(n, (n + 2) % 16, 1, 0);
        }
        Check.question(g, 0, "match (x)-[(a a a a a a a a a a a a a a a b)+]->(y) give x");
        due("19: sixteen", g.least(0, 0, 1), 16);
        due("19: sixteen times fifteen", g.least(0, 0, 15), 240);
        due("19: sixteen times sixteen", g.least(0, 0, 0), 256);
        due("19: from each node", g.least(0, 15, 15), 256);
    }
}
