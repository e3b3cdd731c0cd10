/** Promises 1 to 10: a new object, the tape, nodes, arcs, and what is told of them. */
public final class GraphTest {
    private static final Check CHECK = new Check();

    public static void main(String[] args) {
        newObject();
        feed();
        cut();
        node();
        mark();
        put();
        arc();
        drop();
        told();
        bare();
        CHECK.end("GraphTest");
    }

    private static void due(String call, long got, long want) {
        CHECK.due(call, got, want);
    }

    private static PathQueries graph(int nodes) {
        PathQueries g = new PathQueries();
        for (int i = 0; i < nodes; i++) {
            g.node(0);
        }
        return g;
    }

    private static void newObject() {
        PathQueries g = new PathQueries();
        due("1: BAD", PathQueries.BAD, -1);
        due("1: NO", PathQueries.NO, -2);
        due("1: FULL", PathQueries.FULL, -3);
        due("1: LARGE", PathQueries.LARGE, -4);
        due("1: nodes", g.told(0, 0), 0);
        due("1: arcs", g.told(1, 0), 0);
        due("1: rules", g.told(2, 0), 0);
        due("1: tape", g.cut(0), 0);
        due("1: cut(1)", g.cut(1), -1);
        due("1: place", g.place(), -2);
        for (int q = 0; q < 4; q++) {
            due("1: ask", g.ask(q), -2);
            due("1: answer", g.answer(q, 0, 0), 2000000000);
            due("1: pairs", g.pairs(q), -2);
        }
        PathQueries other = graph(2);
        due("1: objects are apart", g.told(0, 0), 0);
        due("1: and the other one", other.told(0, 0), 2);
    }

    private static void feed() {
        PathQueries g = graph(1);
        due("2: feed", g.feed(0x6d617463, 0x68202878, 0x29206769, 0x76652078, 0x20202020), 20);
        due("2: feed", g.feed(0x20202020, 0x20202020, 0x20202020, 0x20202020, 0x20202020), 40);
        due("2: the bytes are the text", g.question(0), 1);
        for (int i = 1; i <= 75; i++) {
            due("2: feed", g.feed(-1, -1, -1, -1, -1), 20 * i);
        }
        due("2: feed full", g.feed(0, 0, 0, 0, 0), -3);
        due("2: nothing came", g.cut(0), 1500);
        due("2: cut", g.cut(19), 1481);
        due("2: still full", g.feed(0, 0, 0, 0, 0), -3);
        due("2: cut", g.cut(1), 1480);
        due("2: feed", g.feed(0, 0, 0, 0, 0), 1500);
        due("2: byte 255 is none", g.question(0), -11);
        due("2: at", g.place(), 0);
        due("2: empty then", g.feed(0, 0, 0, 0, 0), 20);
    }

    private static void cut() {
        PathQueries g = new PathQueries();
        g.feed(0, 0, 0, 0, 0);
        due("3: cut", g.cut(5), 15);
        due("3: cut below 0", g.cut(-1), -1);
        due("3: cut least", g.cut(Integer.MIN_VALUE), -1);
        due("3: cut too many", g.cut(16), -1);
        due("3: cut most", g.cut(Integer.MAX_VALUE), -1);
        due("3: nothing went", g.cut(0), 15);
        due("3: cut all", g.cut(15), 0);
        due("3: cut none", g.cut(0), 0);
        due("3: cut one", g.cut(1), -1);
        Check.feed(g, "match (x) give x, x");
        due("3: cut to a part", g.cut(3), 16);
        due("3: what is left is read", g.question(0), 1);
    }

    private static void node() {
        PathQueries g = new PathQueries();
        due("4: bad marks", g.node(-1), -1);
        due("4: bad marks", g.node(256), -1);
        for (int i = 0; i < 16; i++) {
            due("4: node", g.node(i * 17), i);
            due("4: its marks", g.told(3, i), i * 17);
            due("4: its columns", g.told(4 + i % 4, i), 0);
        }
        due("4: full", g.node(0), -3);
        due("4: bad before full", g.node(256), -1);
        due("4: nodes", g.told(0, 0), 16);
    }

    private static void mark() {
        PathQueries g = graph(2);
        due("5: mark", g.mark(1, 255), 0);
        due("5: mark", g.mark(1, 3), 255);
        due("5: told", g.told(3, 1), 3);
        due("5: the other", g.told(3, 0), 0);
        due("5: no node", g.mark(2, 3), -1);
        due("5: no node", g.mark(-1, 3), -1);
        due("5: no marks", g.mark(1, 256), -1);
        due("5: no marks", g.mark(1, -1), -1);
        due("5: as before", g.mark(1, 0), 3);
        g.mark(0, 5);
        CHECK.dueAnswer(g, "match (x:m0:m2) give x", "0");
        g.mark(0, 4);
        CHECK.dueAnswer(g, "match (x:m0:m2) give x", "");
    }

    private static void put() {
        PathQueries g = graph(2);
        due("6: put", g.put(1, 3, 9999), 0);
        due("6: put", g.put(1, 3, -9999), 9999);
        due("6: put", g.put(1, 0, 4), 0);
        due("6: told", g.told(7, 1), -9999);
        due("6: told", g.told(4, 1), 4);
        due("6: beyond", g.put(1, 3, 10000), 10000);
        due("6: beyond", g.put(1, 3, -10000), 10000);
        due("6: no column", g.put(1, 4, 0), 10000);
        due("6: no column", g.put(1, -1, 0), 10000);
        due("6: no node", g.put(2, 0, 0), 10000);
        due("6: no node", g.put(-1, 0, 0), 10000);
        due("6: as before", g.put(1, 3, 0), -9999);
        due("6: the other", g.put(0, 3, 1), 0);
    }

    private static void arc() {
        PathQueries g = graph(3);
        due("7: arc", g.arc(0, 1, 7, 99), 0);
        due("7: alike", g.arc(0, 1, 7, 99), 1);
        due("7: to itself", g.arc(2, 2, 0, 0), 2);
        due("7: no node", g.arc(3, 0, 0, 0), -1);
        due("7: no node", g.arc(0, 3, 0, 0), -1);
        due("7: no node", g.arc(-1, 0, 0, 0), -1);
        due("7: no node", g.arc(0, -1, 0, 0), -1);
        due("7: no label", g.arc(0, 0, 8, 0), -1);
        due("7: no label", g.arc(0, 0, -1, 0), -1);
        due("7: no weight", g.arc(0, 0, 0, 100), -1);
        due("7: no weight", g.arc(0, 0, 0, -1), -1);
        due("7: arcs", g.told(1, 0), 3);
        for (int i = 3; i < 100; i++) {
            due("7: arc", g.arc(0, 1, i % 8, i), i);
        }
        due("7: full", g.arc(0, 0, 0, 0), -3);
        due("7: bad before full", g.arc(0, 0, 8, 0), -1);
        g.drop(41);
        g.drop(17);
        due("7: the least that is free", g.arc(2, 1, 0, 0), 17);
        due("7: and the next", g.arc(2, 1, 0, 0), 41);
        due("7: full again", g.arc(0, 0, 0, 0), -3);
    }

    private static void drop() {
        PathQueries g = graph(2);
        g.arc(0, 1, 0, 1);
        g.arc(1, 0, 1, 2);
        g.arc(1, 1, 2, 3);
        due("8: drop", g.drop(1), 2);
        due("8: gone", g.drop(1), -1);
        due("8: gone", g.told(10, 1), 10000);
        due("8: none such", g.drop(3), -1);
        due("8: none such", g.drop(-1), -1);
        due("8: none such", g.drop(100), -1);
        due("8: drop", g.drop(2), 1);
        due("8: drop", g.drop(0), 0);
        due("8: none is left", g.told(1, 0), 0);
        due("8: no lead", g.leads(0, 1, 0), 0);
    }

    private static void told() {
        PathQueries g = graph(3);
        g.mark(1, 6);
        for (int c = 0; c < 4; c++) {
            g.put(1, c, 10 * c - 5);
        }
        g.arc(0, 1, 3, 7);
        g.arc(1, 1, 2, 8);
        g.arc(1, 2, 1, 9);
        g.arc(1, 2, 1, 9);
        Check.rule(g, "rule C match (x) give x, x");
        int[] graph = {3, 4, 1};
        int[] node = {6, -5, 5, 15, 25, 3, 2};
        int[] arc = {1, 2, 1, 9};
        for (int i = 0; i < 3; i++) {
            due("9: of the graph", g.told(i, 0), graph[i]);
            due("9: of the graph, any k", g.told(i, -77), graph[i]);
        }
        for (int i = 0; i < 7; i++) {
            due("9: of a node " + i, g.told(3 + i, 1), node[i]);
            due("9: no node", g.told(3 + i, 3), 10000);
            due("9: no node", g.told(3 + i, -1), 10000);
        }
        for (int i = 0; i < 4; i++) {
            due("9: of an arc " + i, g.told(10 + i, 2), arc[i]);
            due("9: no arc", g.told(10 + i, 4), 10000);
            due("9: no arc", g.told(10 + i, -1), 10000);
            due("9: no arc", g.told(10 + i, 100), 10000);
        }
        due("9: none such", g.told(14, 0), 10000);
        due("9: none such", g.told(-1, 0), 10000);
        due("9: none such", g.told(Integer.MIN_VALUE, 0), 10000);
    }

    private static void bare() {
        PathQueries g = graph(3);
        g.mark(1, 255);
        g.put(1, 0, 1);
        g.put(1, 3, 2);
        g.put(0, 0, 3);
        g.arc(0, 1, 0, 0);
        g.arc(0, 2, 0, 0);
        g.arc(1, 1, 0, 0);
        g.arc(1, 2, 0, 0);
        due("10: no node", g.bare(3), -1);
        due("10: no node", g.bare(-1), -1);
        due("10: nothing went", g.told(1, 0), 4);
        due("10: bare", g.bare(1), 3);
        due("10: arcs", g.told(1, 0), 1);
        due("10: the other arc", g.told(11, 1), 2);
        due("10: marks", g.told(3, 1), 0);
        due("10: column", g.told(4, 1), 0);
        due("10: column", g.told(7, 1), 0);
        due("10: of another node", g.told(4, 0), 3);
        due("10: the node is still there", g.told(0, 0), 3);
        due("10: once more", g.bare(1), 0);
        due("10: the least free number", g.arc(0, 0, 0, 0), 0);
    }
}
