import java.util.Random;

/** Any arguments in any state: no call throws, and each answers as the naive form does. */
public final class WildTest {
    private static final int[] EDGES = {Integer.MIN_VALUE, Integer.MIN_VALUE + 1, -10000, -9999, -2, -1, 0, 1, 2, 3,
        4, 5, 7, 8, 9, 11, 12, 13, 14, 15, 16, 99, 100, 101, 255, 256, 1500, 9999, 10000, Integer.MAX_VALUE};
    private static final String[] TEXTS = {"match (x)-[a|B]->(y) give x, y", "rule B match (x)-[_|B a]->(y) give y, x",
        "match (x:m1) where no (x)-[c]->() give x, sum x.c1", "rule C match (x), (y), (z), () give x, z",
        "match (x)-least w[(a|^b)*]->(y) where w > 1 give w, count", "match (x), (y), (z), () give count",
        "rule A match (x)<-[C A]-(y:m0) give x, y", "match ()-[_+]->() give 9999 * 9999 * 9999"};
    private final Check check = new Check();
    private Random random = new Random(0);

    public static void main(String[] args) {
        WildTest test = new WildTest();
        for (int run = 0; run < 300; run++) {
            test.run(run);
        }
        test.check.end("WildTest");
    }

    private int any() {
        return random.nextInt(40) == 0 ? random.nextInt() : EDGES[random.nextInt(EDGES.length)];
    }

    private int near() {
        return random.nextInt(3) == 0 ? any() : random.nextInt(5);
    }

    private void run(int seed) {
        random = new Random(seed);
        PathQueries g = new PathQueries();
        Naive n = new Naive();
        for (int call = 0; call < 512; call++) {
            int what = random.nextInt(26);
            int a = near();
            int b = near();
            int c = near();
            int d = near();
            String told = "run " + seed + " call " + call + ": " + what + " of " + a + " " + b + " " + c + " " + d;
            if (what < 9) {
                check.due(told, change(g, what, a, b, c, d), change(n, what, a, b, c, d));
            } else if (what < 18) {
                check.due(told, ask(g, what, a, b, c), ask(n, what, a, b, c));
            } else if (what < 20) {
                check.due(told, g.feed(a, b, c, d, a), n.feed(a, b, c, d, a));
            } else {
                check.due(told, text(g, n, TEXTS[random.nextInt(TEXTS.length)], a), 0);
            }
        }
    }

    private static int change(PathQueries g, int what, int a, int b, int c, int d) {
        return switch (what) {
            case 0 -> g.cut(a);
            case 1, 2 -> g.node(a);
            case 3 -> g.mark(a, b);
            case 4 -> g.put(a, b, c);
            case 5, 6 -> g.arc(a, b, c, d);
            case 7 -> g.drop(a);
            default -> g.bare(a);
        };
    }

    private static int change(Naive g, int what, int a, int b, int c, int d) {
        return switch (what) {
            case 0 -> g.cut(a);
            case 1, 2 -> g.node(a);
            case 3 -> g.mark(a, b);
            case 4 -> g.put(a, b, c);
            case 5, 6 -> g.arc(a, b, c, d);
            case 7 -> g.drop(a);
            default -> g.bare(a);
        };
    }

    private static int ask(PathQueries g, int what, int a, int b, int c) {
        return switch (what) {
            case 9 -> g.told(a, b);
            case 10 -> g.question(a);
            case 11 -> g.rule();
            case 12 -> g.forget(a);
            case 13 -> g.ask(a);
            case 14 -> g.answer(a, b, c);
            case 15 -> g.leads(a, b, c);
            case 16 -> g.pairs(a);
            default -> g.least(a, b, c);
        };
    }

    private static int ask(Naive g, int what, int a, int b, int c) {
        return switch (what) {
            case 9 -> g.told(a, b);
            case 10 -> g.question(a);
            case 11 -> g.rule();
            case 12 -> g.forget(a);
            case 13 -> g.ask(a);
            case 14 -> g.answer(a, b, c);
            case 15 -> g.leads(a, b, c);
            case 16 -> g.pairs(a);
            default -> g.least(a, b, c);
        };
    }

    /** How many calls differ when a text is read, and asked. */
    private static int text(PathQueries g, Naive n, String text, int q) {
        int wrong = 0;
        g.cut(g.cut(0));
        n.cut(n.cut(0));
        for (int i = 0; i < text.length(); i += 20) {
            int[] f = Check.five(text, i);
            wrong += g.feed(f[0], f[1], f[2], f[3], f[4]) == n.feed(f[0], f[1], f[2], f[3], f[4]) ? 0 : 1;
        }
        boolean rule = text.startsWith("rule");
        wrong += (rule ? g.rule() : g.question(q)) == (rule ? n.rule() : n.question(q)) ? 0 : 1;
        wrong += g.place() == n.place() ? 0 : 1;
        wrong += g.ask(q) == n.ask(q) ? 0 : 1;
        wrong += g.answer(q, 0, 0) == n.answer(q, 0, 0) ? 0 : 1;
        wrong += g.pairs(1) == n.pairs(1) ? 0 : 1;
        return wrong;
    }
}
