import java.util.ArrayList;
import java.util.Arrays;
import java.util.List;
import java.util.function.ToIntFunction;

/**
 * What a refused call leaves as it was. Each such call is made on an object of its own; all that can be
 * told of that object is compared with what is told of a twin on which it was not made.
 */
public final class RefusedTest {
    private static final Check CHECK = new Check();
    private static final int LEAST = Integer.MIN_VALUE;
    private static final int MOST = Integer.MAX_VALUE;
    private static final String ON_THE_TAPE = "match (x)-[b]->(y) give y, x, 5";

    /** How an object stands before the call that is refused. */
    private enum Standing { ORDINARY, FULL, LARGE, NEW }

    public static void main(String[] args) {
        tape();
        nodes();
        arcs();
        told();
        forget();
        asks();
        leadsAndPairs();
        least();
        fullOnes();
        largeOnes();
        newOnes();
        noSuchQuestion();
        questionAtFault();
        ruleAtFault();
        CHECK.end("RefusedTest");
    }

    private static PathQueries make(Standing standing) {
        PathQueries g = new PathQueries();
        if (standing == Standing.NEW) {
            return g;
        }
        int nodes = standing == Standing.ORDINARY ? 3 : standing == Standing.LARGE ? 12 : 16;
        for (int n = 0; n < nodes; n++) {
            g.node(n < 3 ? 85 * (n + 1) : 0);
        }
        g.put(1, 0, 9999);
        g.put(2, 3, -9999);
        g.arc(0, 1, 0, 99);
        g.arc(1, 2, 1, 0);
        g.arc(2, 2, 7, 50);
        for (int k = 3; k < 100 && standing == Standing.FULL; k++) {
            g.arc(k % 16, k / 7, k % 8, k);
        }
        Check.rule(g, "rule B match (x)-[a|b|B B]->(y) give x, y");
        if (standing == Standing.LARGE) {
            Check.rule(g, "rule C match (x), (y), (z), () give x, y");
        }
        Check.question(g, 0, "match (x)-[B]->(y) give x, y, 7");
        Check.question(g, 2, "match (x:m0) where x.c0 < 5 give x, count");
        Check.question(g, 1, "match (x) give x x");
        g.ask(0);
        g.ask(2);
        if (standing == Standing.FULL) {
            Check.feed(g, ON_THE_TAPE + " ".repeat(1500 - ON_THE_TAPE.length()));
        } else {
            Check.feed(g, ON_THE_TAPE);
        }
        return g;
    }

    /** All that is told; what was asked before comes first, as asking anew would hide a change. */
    private static List<Integer> all(PathQueries g) {
        List<Integer> all = new ArrayList<>(Arrays.asList(g.place(), g.cut(0)));
        for (int k = 0; k < 24; k++) {
            all.add(g.answer(k % 2 * 2, k / 6, k / 2 % 3));
        }
        for (int n = 0; n < Math.min(4, g.told(0, 0)); n++) {
            for (int what = 3; what < 10; what++) {
                all.add(g.told(what, n));
            }
        }
        for (int k = 0; k < 4; k++) {
            for (int what = 10; what < 14; what++) {
                all.add(g.told(what, k));
            }
            all.addAll(Arrays.asList(g.told(k % 3, 0), g.pairs(k), g.ask(k), g.least(k, 0, 2), g.least(k, 2, 2)));
        }
        for (int k = 0; k < 36; k++) {
            all.add(g.leads(k / 12, 2, k % 12));
        }
        all.addAll(Arrays.asList(g.told(15, 0), g.told(13, 99), g.told(10, 99)));
        all.addAll(Arrays.asList(g.question(3), g.place(), g.cut(0), g.ask(3), g.answer(3, 0, 0), g.answer(3, 0, 2)));
        return all;
    }

    private static void refused(Standing standing, String call, ToIntFunction<PathQueries> it, int due) {
        PathQueries g = make(standing);
        CHECK.due(standing + " " + call, it.applyAsInt(g), due);
        CHECK.due(standing + " stays behind " + call, all(g).equals(all(make(standing))));
    }

    private static void refused(String call, ToIntFunction<PathQueries> it, int due) {
        refused(Standing.ORDINARY, call, it, due);
    }

    private static void tape() {
        int length = ON_THE_TAPE.length();
        for (int n : new int[] {-1, length + 1, LEAST, MOST}) {
            refused("cut " + n, g -> g.cut(n), -1);
        }
        refused("cut of none", g -> g.cut(0), length);
    }

    private static void nodes() {
        for (int bad : new int[] {-1, 256, LEAST, MOST}) {
            refused("node " + bad, g -> g.node(bad), -1);
            refused("mark of " + bad, g -> g.mark(2, bad), -1);
        }
        for (int bad : new int[] {-1, 3, LEAST, MOST}) {
            refused("mark " + bad, g -> g.mark(bad, 1), -1);
            refused("put " + bad, g -> g.put(bad, 0, 1), 10000);
            refused("bare " + bad, g -> g.bare(bad), -1);
        }
        for (int bad : new int[] {-1, 4, LEAST, MOST}) {
            refused("put in " + bad, g -> g.put(2, bad, 1), 10000);
        }
        for (int bad : new int[] {-10000, 10000, LEAST, MOST}) {
            refused("put of " + bad, g -> g.put(2, 3, bad), 10000);
        }
    }

    private static void arcs() {
        for (int bad : new int[] {-1, 3, LEAST, MOST}) {
            refused("arc from " + bad, g -> g.arc(bad, 0, 0, 0), -1);
            refused("arc to " + bad, g -> g.arc(0, bad, 0, 0), -1);
            refused("drop " + bad, g -> g.drop(bad), -1);
        }
        for (int bad : new int[] {-1, 8, LEAST, MOST}) {
            refused("arc of label " + bad, g -> g.arc(0, 0, bad, 0), -1);
        }
        for (int bad : new int[] {-1, 100, LEAST, MOST}) {
            refused("arc of weight " + bad, g -> g.arc(0, 0, 0, bad), -1);
        }
        refused("drop 99", g -> g.drop(99), -1);
        refused("drop 100", g -> g.drop(100), -1);
    }

    private static void told() {
        for (int what : new int[] {-1, 14, LEAST, MOST}) {
            refused("told " + what, g -> g.told(what, 0), 10000);
        }
        refused("told of no node", g -> g.told(3, 3), 10000);
        refused("told of no arc", g -> g.told(10, 3), 10000);
    }

    private static void forget() {
        for (int label : new int[] {-1, 4, LEAST, MOST}) {
            refused("forget " + label, g -> g.forget(label), -1);
        }
        refused("forget of none", g -> g.forget(0), -2);
        refused("forget of none", g -> g.forget(3), -2);
    }

    private static void asks() {
        for (int q : new int[] {-1, 4, LEAST, MOST}) {
            refused("ask " + q, g -> g.ask(q), -1);
            refused("answer " + q, g -> g.answer(q, 0, 0), 2000000000);
        }
        refused("ask of none", g -> g.ask(1), -2);
        refused("ask of none", g -> g.ask(3), -2);
        refused("answer of no row", g -> g.answer(0, 99, 0), 2000000000);
        refused("answer of no item", g -> g.answer(0, 0, 3), 2000000000);
        refused("ask once more", g -> g.ask(0), 3);
    }

    private static void leadsAndPairs() {
        for (int label : new int[] {-1, 12, LEAST, MOST}) {
            refused("leads of " + label, g -> g.leads(0, 0, label), -1);
            refused("pairs " + label, g -> g.pairs(label), -1);
        }
        refused("leads from none", g -> g.leads(3, 0, 0), -1);
        refused("leads to none", g -> g.leads(0, 3, 8), -1);
        refused("pairs of none", g -> g.pairs(0), -2);
    }

    private static void least() {
        for (int bad : new int[] {-1, 4, LEAST, MOST}) {
            refused("least " + bad, g -> g.least(bad, 0, 0), -1);
            refused("least from " + bad, g -> g.least(0, bad, 0), -1);
            refused("least to " + bad, g -> g.least(0, 0, bad), -1);
        }
        refused("least of no question", g -> g.least(1, 0, 0), -2);
        refused("least of no way", g -> g.least(2, 0, 0), -2);
        refused("least of none", g -> g.least(0, 1, 0), -2);
    }

    private static void fullOnes() {
        refused(Standing.FULL, "feed", g -> g.feed(0, 0, 0, 0, 0), -3);
        refused(Standing.FULL, "feed of blanks", g -> g.feed(-1, -1, -1, -1, -1), -3);
        refused(Standing.FULL, "cut of more", g -> g.cut(1501), -1);
        refused(Standing.FULL, "node", g -> g.node(1), -3);
        refused(Standing.FULL, "bad node", g -> g.node(256), -1);
        refused(Standing.FULL, "arc", g -> g.arc(0, 1, 0, 0), -3);
        refused(Standing.FULL, "bad arc", g -> g.arc(0, 16, 0, 0), -1);
        refused(Standing.FULL, "mark", g -> g.mark(16, 0), -1);
        refused(Standing.FULL, "put", g -> g.put(16, 0, 0), 10000);
        refused(Standing.FULL, "drop", g -> g.drop(100), -1);
        refused(Standing.FULL, "bare", g -> g.bare(16), -1);
    }

    private static void largeOnes() {
        for (int q : new int[] {0, 2}) {
            refused(Standing.LARGE, "ask " + q, g -> g.ask(q), -4);
        }
        refused(Standing.LARGE, "ask of none", g -> g.ask(1), -2);
        refused(Standing.LARGE, "pairs", g -> g.pairs(1), -4);
        refused(Standing.LARGE, "pairs of none", g -> g.pairs(0), -2);
        refused(Standing.LARGE, "leads", g -> g.leads(0, 0, 9), -4);
        refused(Standing.LARGE, "least", g -> g.least(0, 0, 1), -4);
        refused(Standing.LARGE, "answer", g -> g.answer(0, 0, 0), 2000000000);
    }

    private static void newOnes() {
        refused(Standing.NEW, "cut", g -> g.cut(1), -1);
        refused(Standing.NEW, "node", g -> g.node(256), -1);
        refused(Standing.NEW, "mark", g -> g.mark(0, 0), -1);
        refused(Standing.NEW, "put", g -> g.put(0, 0, 0), 10000);
        refused(Standing.NEW, "arc", g -> g.arc(0, 0, 0, 0), -1);
        refused(Standing.NEW, "drop", g -> g.drop(0), -1);
        refused(Standing.NEW, "bare", g -> g.bare(0), -1);
        refused(Standing.NEW, "forget", g -> g.forget(0), -2);
        refused(Standing.NEW, "ask", g -> g.ask(0), -2);
        refused(Standing.NEW, "question", g -> g.question(4), -1);
    }

    /** Such a call is the latest one of question() and rule(), and it had no fault: place() tells that. */
    private static void noSuchQuestion() {
        for (int q : new int[] {-1, 4, LEAST, MOST}) {
            PathQueries g = make(Standing.ORDINARY);
            PathQueries twin = make(Standing.ORDINARY);
            CHECK.due("question " + q, g.question(q), -1);
            CHECK.due("place behind it", g.place(), -2);
            List<Integer> got = all(g);
            List<Integer> want = all(twin);
            CHECK.due("the rest stays behind question " + q, got.subList(1, got.size()).equals(want.subList(1, want.size())));
        }
    }

    /** Only THE TAPE and the place are others then; the questions and their answers stay. */
    private static void questionAtFault() {
        String[] texts = {"match (x) give !", "match (x) give", "match (x) give " + "-".repeat(11) + "x",
            "match (x)-least x[a]->(y) give x", "match (x)-[c d]->(y) give z", "match (x) give x, 8 limit 0"};
        for (int fault = 1; fault <= 6; fault++) {
            for (int q = 0; q < 4; q++) {
                PathQueries g = make(Standing.ORDINARY);
                g.cut(ON_THE_TAPE.length());
                CHECK.due("question at fault " + fault, Check.question(g, q, texts[fault - 1]), -10 - fault);
                dueSameButTape(g, "question " + q + " at fault " + fault);
            }
        }
    }

    private static void ruleAtFault() {
        String[] texts = {"rule B match (x) give !", "rule B match (x) give x", "rule B match (x)-[" + "(".repeat(11) + "a",
            "rule B match (x)-least x[a]->(y) give x, x", "rule B match (x)-[c]->(y) give x, z",
            "rule B match (x) where no (x)-[B]->(x) give x, x"};
        for (int fault = 1; fault <= 6; fault++) {
            PathQueries g = make(Standing.ORDINARY);
            g.cut(ON_THE_TAPE.length());
            CHECK.due("rule at fault " + fault, Check.rule(g, texts[fault - 1]), -10 - fault);
            dueSameButTape(g, "rule at fault " + fault);
        }
    }

    private static void dueSameButTape(PathQueries g, String call) {
        CHECK.due("there is a place behind " + call, g.place() >= 0);
        CHECK.due("the tape is empty behind " + call, g.cut(1), -1);
        Check.feed(g, ON_THE_TAPE);
        List<Integer> got = all(g);
        List<Integer> want = all(make(Standing.ORDINARY));
        CHECK.due("the rest stays behind " + call, got.subList(1, got.size()).equals(want.subList(1, want.size())));
    }
}
