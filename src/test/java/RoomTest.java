import java.lang.management.ManagementFactory;

/** All calls of a run live in one room: what the dearest runs make stays far below it. */
public final class RoomTest {
    private static final Check CHECK = new Check();
    // 7.3 million fields and elements; most are ints of four bytes.
    private static final long ROOM_BYTES = 4L * 7_300_000;
    private static final com.sun.management.ThreadMXBean THREADS =
            (com.sun.management.ThreadMXBean) ManagementFactory.getThreadMXBean();

    public static void main(String[] args) {
        newObjects();
        dearAsks();
        mostRows();
        dearTexts();
        dearRules();
        CHECK.end("RoomTest");
    }

    private static long made() {
        return THREADS.getThreadAllocatedBytes(Thread.currentThread().getId());
    }

    private static void within(String what, long before, long share) {
        long bytes = made() - before;
        CHECK.due(what + " made " + bytes + " bytes", bytes < share);
    }

    private static void newObjects() {
        new PathQueries();
        long before = made();
        for (int i = 0; i < 20; i++) {
            new PathQueries();
        }
        within("twenty objects", before, ROOM_BYTES / 4);
    }

    /** The widest answers of the most rows, for all four questions, again and again. */
    private static void dearAsks() {
        PathQueries g = new PathQueries();
        String text = "match (x), (y), (z), (u), (v), (), () give x, y, z, u, v, x + y, y + z, z + u";
        int[][] fed = new int[5][];
        for (int i = 0; i < 5; i++) {
            fed[i] = Check.five(text, 20 * i);
        }
        long before = made();
        for (int q = 0; q < 4; q++) {
            for (int[] f : fed) {
                g.feed(f[0], f[1], f[2], f[3], f[4]);
            }
            g.question(q);
        }
        for (int i = 0; i < 4; i++) {
            g.node(0);
            for (int q = 0; q < 4; q++) {
                g.ask(q);
            }
        }
        for (int i = 0; i < 85; i++) {
            g.mark(0, 0);
            for (int q = 0; q < 4; q++) {
                g.ask(q);
            }
        }
        CHECK.due("rows", g.ask(0), 1024);
        within("dear asks", before, ROOM_BYTES / 2);
    }

    /** No answer can have more rows than those of seven nodes for five names, nor more items than eight. */
    private static void mostRows() {
        PathQueries g = new PathQueries();
        long before = made();
        for (int q = 0; q < 4; q++) {
            Check.question(g, q, "match (x), (y), (z), (u), (v) give x, y, z, u, v, x - y, y - z, z - u");
        }
        for (int n = 1; n <= 7; n++) {
            g.node(0);
            for (int q = 0; q < 4; q++) {
                CHECK.due("rows", g.ask(q), (long) Math.pow(n, 5));
            }
        }
        for (int i = 0; i < 100; i++) {
            g.put(0, 0, i);
            for (int q = 0; q < 4; q++) {
                CHECK.due("rows", g.ask(q), 16807);
            }
        }
        within("most rows", before, ROOM_BYTES / 2);
    }

    private static void dearTexts() {
        PathQueries g = new PathQueries();
        int[] f = Check.five("match(x)-[a]->(y)give", 0);
        int[] h = Check.five("match(x)-[a]->(y)give x", 20);
        long before = made();
        for (int i = 0; i < 170; i++) {
            g.feed(f[0], f[1], f[2], f[3], f[4]);
            g.feed(h[0], h[1], h[2], h[3], h[4]);
            g.question(i % 4);
        }
        within("dear texts", before, ROOM_BYTES / 10);
    }

    private static void dearRules() {
        PathQueries g = new PathQueries();
        for (int i = 0; i < 16; i++) {
            g.node(0);
        }
        for (int i = 0; i < 15; i++) {
            g.arc(i, i + 1, 0, 0);
        }
        Check.rule(g, "rule A match (x)-[a|A a]->(y), (z) give x, y");
        Check.rule(g, "rule B match (x)-[A a|b]->(y) where no (y)-[a]->(z) give x, y");
        Check.question(g, 0, "match (x)-[A|B]->(y) give x, y");
        long before = made();
        for (int i = 0; i < 200; i++) {
            g.mark(0, 0);
            CHECK.due("pairs", g.pairs(0), 120);
        }
        within("dear rules", before, ROOM_BYTES / 4);
    }
}
