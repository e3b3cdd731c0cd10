/** Boundary cases of promises 1 to 10: the last value that is allowed and the first that is not. */
public final class GraphEdgeTest {
    private static final Check CHECK = new Check();
    private static final int LEAST = Integer.MIN_VALUE;
    private static final int MOST = Integer.MAX_VALUE;
    private static final int BLANKS = 0x20202020;

    public static void main(String[] args) {
        constants();
        newObjectHasNothing();
        newObjectReadsNothing();
        feedGoesTo1500();
        feedNeedsRoomForAllTwenty();
        feedPutsHighestBytesFirst();
        feedTakesAnyByte();
        feedComesBehindWhatIsThere();
        cutNoneToAll();
        cutTakesTheLastOnes();
        cutBytesAreNotSeen();
        nodeMarks();
        nodesAreSixteen();
        markBounds();
        putColumns();
        putValues();
        arcNodes();
        arcLabels();
        arcWeights();
        arcsAreHundred();
        arcNumberIsTheLeastFree();
        dropBounds();
        toldKinds();
        toldNodes();
        toldArcs();
        toldLoops();
        bareBounds();
        bareOfAllArcs();
        bareOfNothing();
        CHECK.end("GraphEdgeTest");
    }

    private static void due(String call, long got, long want) {
        CHECK.due(call, got, want);
    }

    private static PathQueries nodes(int count) {
        PathQueries g = new PathQueries();
        for (int i = 0; i < count; i++) {
            g.node(0);
        }
        return g;
    }

    /** Numbers that are none of 0 .. last. */
    private static int[] beyond(int last) {
        return new int[] {-1, last + 1, LEAST, MOST, -last - 1, -2, 256 + last, 65536};
    }

    private static void constants() {
        due("BAD", PathQueries.BAD, -1);
        due("NO", PathQueries.NO, -2);
        due("FULL", PathQueries.FULL, -3);
        due("LARGE", PathQueries.LARGE, -4);
    }

    private static void newObjectHasNothing() {
        PathQueries g = new PathQueries();
        for (int what = 0; what < 3; what++) {
            due("1: told " + what, g.told(what, 0), 0);
        }
        for (int what = 3; what < 14; what++) {
            due("1: told " + what, g.told(what, 0), 10000);
        }
        due("1: mark", g.mark(0, 0), -1);
        due("1: put", g.put(0, 0, 0), 10000);
        due("1: arc", g.arc(0, 0, 0, 0), -1);
        due("1: drop", g.drop(0), -1);
        due("1: bare", g.bare(0), -1);
        for (int k = 0; k < 4; k++) {
            due("1: forget " + k, g.forget(k), -2);
            due("1: pairs " + k, g.pairs(k), -2);
            due("1: ask " + k, g.ask(k), -2);
            due("1: answer " + k, g.answer(k, 0, 0), 2000000000);
            due("1: least " + k, g.least(k, 0, 0), -1);
        }
        due("1: leads", g.leads(0, 0, 0), -1);
        due("1: leads of a rule", g.leads(0, 0, 8), -1);
        due("1: place", g.place(), -2);
        due("1: the first node", g.node(0), 0);
        due("1: the first arc", g.arc(0, 0, 0, 0), 0);
    }

    private static void newObjectReadsNothing() {
        PathQueries g = new PathQueries();
        due("1: the tape", g.cut(0), 0);
        due("1: no byte to cut", g.cut(1), -1);
        due("1: no question on it", g.question(0), -12);
        due("1: at its end", g.place(), 0);
        due("1: no rule on it", new PathQueries().rule(), -12);
        due("1: twenty come", g.feed(0, 0, 0, 0, 0), 20);
    }

    private static PathQueries blankTape(int feeds) {
        PathQueries g = new PathQueries();
        for (int i = 1; i <= feeds; i++) {
            due("2: feed " + i, g.feed(BLANKS, BLANKS, BLANKS, BLANKS, BLANKS), 20 * i);
        }
        return g;
    }

    private static void feedGoesTo1500() {
        PathQueries g = blankTape(75);
        due("2: the 76th", g.feed(0, 0, 0, 0, 0), -3);
        due("2: it still has", g.cut(0), 1500);
        due("2: all blanks", g.question(0), -12);
        due("2: to the end", g.place(), 1500);
        due("2: there is room again", g.feed(0, 0, 0, 0, 0), 20);
    }

    private static void feedNeedsRoomForAllTwenty() {
        for (int gone = 0; gone <= 21; gone++) {
            PathQueries g = blankTape(75);
            g.cut(gone);
            due("2: room of " + gone, g.feed(0, 0, 0, 0, 0), gone < 20 ? -3 : 1520 - gone);
            due("2: then it has", g.cut(0), gone < 20 ? 1500 - gone : 1520 - gone);
        }
    }

    /** A byte that is no token is met where it stands. */
    private static void feedPutsHighestBytesFirst() {
        for (int at = 0; at < 20; at++) {
            for (int feeds = 0; feeds < 75; feeds += 37) {
                PathQueries g = blankTape(feeds);
                feedWith(g, at, 0);
                due("2: byte " + at, g.question(0), -11);
                due("2: its place", g.place(), 20 * feeds + at);
            }
        }
    }

    private static void feedTakesAnyByte() {
        for (int b = 0; b < 256; b++) {
            PathQueries g = new PathQueries();
            due("2: feed of " + b, feedWith(g, 19, b), 20);
            boolean blank = b == 9 || b == 10 || b == 13 || b == 32;
            g.question(0);
            due("2: it was read " + b, g.place(), blank ? 20 : 19);
        }
    }

    private static int feedWith(PathQueries g, int at, int b) {
        int[] five = {BLANKS, BLANKS, BLANKS, BLANKS, BLANKS};
        int shift = 24 - 8 * (at % 4);
        five[at / 4] = BLANKS & ~(255 << shift) | b << shift;
        return g.feed(five[0], five[1], five[2], five[3], five[4]);
    }

    private static void feedComesBehindWhatIsThere() {
        PathQueries g = nodes(2);
        Check.feed(g, "match (x) give x");
        due("2: behind 16", g.feed(0x2c312b78, 0x2a322020, BLANKS, BLANKS, BLANKS), 36);
        due("2: both are read", g.question(0), 2);
        g.ask(0);
        due("2: the one", g.answer(0, 1, 0), 1);
        due("2: the other", g.answer(0, 1, 1), 3);
    }

    private static void cutNoneToAll() {
        PathQueries g = blankTape(2);
        due("3: none", g.cut(0), 40);
        for (int n : new int[] {-1, 41, LEAST, MOST, -40}) {
            due("3: cut " + n, g.cut(n), -1);
            due("3: it still has", g.cut(0), 40);
        }
        due("3: one", g.cut(1), 39);
        due("3: one more than there are", g.cut(40), -1);
        due("3: all", g.cut(39), 0);
        due("3: one of none", g.cut(1), -1);
        due("3: none of none", g.cut(0), 0);
        due("3: all of 1500", blankTape(75).cut(1500), 0);
        due("3: more than 1500", blankTape(75).cut(1501), -1);
    }

    private static void cutTakesTheLastOnes() {
        PathQueries g = nodes(1);
        Check.feed(g, "match (x) give x, 12");
        due("3: the last one", g.cut(1), 19);
        due("3: the others are read", g.question(0), 2);
        g.ask(0);
        due("3: as they were", g.answer(0, 0, 1), 1);
    }

    /** What a token could be longer by must not be taken from what was cut. */
    private static void cutBytesAreNotSeen() {
        dueCut("match (x)-[a]->", 1, 13);
        dueCut("match (x) where x<-", 1, 18);
        dueCut("match (x) where x<=", 1, 18);
        dueCut("match (x) where x>=", 1, 18);
        dueCut("match (x) where 1", 1, 16);
        PathQueries g = nodes(1);
        Check.feed(g, "match (x) give x1");
        g.cut(1);
        due("3: a name's digit", g.question(0), 1);
        Check.feed(g, "match (x) where x!=");
        g.cut(1);
        due("3: half a sign", g.question(0), -11);
        due("3: at", g.place(), 17);
    }

    private static void dueCut(String text, int n, int place) {
        PathQueries g = new PathQueries();
        Check.feed(g, text);
        g.cut(n);
        due("3: cut of " + text, g.question(0), -12);
        due("3: its place", g.place(), place);
    }

    private static void nodeMarks() {
        PathQueries g = new PathQueries();
        for (int marks : beyond(255)) {
            due("4: marks " + marks, g.node(marks), -1);
        }
        due("4: none came", g.told(0, 0), 0);
        due("4: the least marks", g.node(0), 0);
        due("4: the most marks", g.node(255), 1);
        due("4: told", g.told(3, 0), 0);
        due("4: told", g.told(3, 1), 255);
    }

    private static void nodesAreSixteen() {
        PathQueries g = new PathQueries();
        for (int i = 0; i < 16; i++) {
            due("4: node", g.node(i), i);
            for (int c = 4; c < 8; c++) {
                due("4: 0 at first", g.told(c, i), 0);
            }
            due("4: no arcs from it", g.told(8, i), 0);
            due("4: no arcs to it", g.told(9, i), 0);
        }
        due("4: the 17th", g.node(1), -3);
        due("4: once more", g.node(255), -3);
        due("4: bad ones stay bad", g.node(256), -1);
        due("4: bad ones stay bad", g.node(-1), -1);
        due("4: nodes", g.told(0, 0), 16);
        due("4: no node 16", g.told(3, 16), 10000);
        for (int i = 0; i < 16; i++) {
            due("4: marks are as they were", g.told(3, i), i);
        }
    }

    private static void markBounds() {
        for (int count = 1; count <= 16; count += 5) {
            PathQueries g = nodes(count);
            due("5: the first", g.mark(0, 255), 0);
            due("5: the last", g.mark(count - 1, 128), count == 1 ? 255 : 0);
            for (int n : beyond(count - 1)) {
                due("5: node " + n, g.mark(n, 1), -1);
            }
            for (int marks : beyond(255)) {
                due("5: marks " + marks, g.mark(count - 1, marks), -1);
            }
            due("5: as it was", g.mark(count - 1, 0), 128);
            due("5: as it became", g.mark(count - 1, 0), 0);
        }
    }

    private static void putColumns() {
        for (int count = 1; count <= 16; count += 5) {
            PathQueries g = nodes(count);
            for (int c = 0; c < 4; c++) {
                due("6: 0 at first", g.put(count - 1, c, c + 1), 0);
            }
            for (int c : beyond(3)) {
                due("6: column " + c, g.put(count - 1, c, 7), 10000);
            }
            for (int n : beyond(count - 1)) {
                due("6: node " + n, g.put(n, 0, 7), 10000);
            }
            for (int c = 0; c < 4; c++) {
                due("6: as it was", g.told(4 + c, count - 1), c + 1);
                due("6: of the first", g.told(4 + c, 0), count == 1 ? c + 1 : 0);
            }
        }
    }

    private static void putValues() {
        PathQueries g = nodes(16);
        for (int c = 0; c < 4; c++) {
            due("6: the most", g.put(15, c, 9999), 0);
            for (int v : new int[] {10000, -10000, LEAST, MOST, 65536}) {
                due("6: beyond " + v, g.put(15, c, v), 10000);
            }
            due("6: the least", g.put(15, c, -9999), 9999);
            due("6: beyond", g.put(15, c, -10000), 10000);
            due("6: told", g.told(4 + c, 15), -9999);
            due("6: back", g.put(15, c, 0), -9999);
        }
        g.put(3, 2, -9999);
        CHECK.dueAnswer(g, "match (x) where x.c2 < 0 give x, x.c2, x.c2 - 1", "3 -9999 -10000");
    }

    private static void arcNodes() {
        for (int count = 1; count <= 16; count += 5) {
            PathQueries g = nodes(count);
            for (int n : beyond(count - 1)) {
                due("7: from " + n, g.arc(n, 0, 0, 0), -1);
                due("7: to " + n, g.arc(0, n, 0, 0), -1);
            }
            due("7: none came", g.told(1, 0), 0);
            due("7: the last nodes", g.arc(count - 1, count - 1, 0, 0), 0);
            due("7: from the last", g.arc(count - 1, 0, 0, 0), 1);
            due("7: to the last", g.arc(0, count - 1, 0, 0), 2);
            due("7: told", g.told(10, 1), count - 1);
            due("7: told", g.told(11, 2), count - 1);
        }
    }

    private static void arcLabels() {
        PathQueries g = nodes(2);
        for (int label : beyond(7)) {
            due("7: label " + label, g.arc(0, 1, label, 0), -1);
        }
        due("7: one of a rule", g.arc(0, 1, 11, 0), -1);
        for (int label = 0; label < 8; label++) {
            due("7: label " + label, g.arc(0, 1, label, 0), label);
            due("7: told", g.told(12, label), label);
            due("7: it leads", g.leads(0, 1, label), 1);
        }
    }

    private static void arcWeights() {
        PathQueries g = nodes(2);
        for (int weight : beyond(99)) {
            due("7: weight " + weight, g.arc(0, 1, 0, weight), -1);
        }
        due("7: the least", g.arc(0, 1, 0, 0), 0);
        due("7: the most", g.arc(0, 1, 0, 99), 1);
        due("7: told", g.told(13, 0), 0);
        due("7: told", g.told(13, 1), 99);
    }

    private static PathQueries fullOfArcs() {
        PathQueries g = nodes(3);
        for (int k = 0; k < 100; k++) {
            due("7: arc", g.arc(0, 1, 0, k), k);
        }
        return g;
    }

    private static void arcsAreHundred() {
        PathQueries g = fullOfArcs();
        due("7: the 101st", g.arc(2, 2, 1, 1), -3);
        due("7: arcs", g.told(1, 0), 100);
        due("7: all alike", g.leads(0, 1, 0), 100);
        due("7: none of the refused", g.leads(2, 2, 1), 0);
        due("7: bad ones stay bad", g.arc(3, 2, 1, 1), -1);
        due("7: bad ones stay bad", g.arc(2, 3, 1, 1), -1);
        due("7: bad ones stay bad", g.arc(2, 2, 8, 1), -1);
        due("7: bad ones stay bad", g.arc(2, 2, 1, 100), -1);
        for (int k = 0; k < 100; k++) {
            due("7: as it was", g.told(13, k), k);
        }
    }

    private static void arcNumberIsTheLeastFree() {
        for (int gone : new int[] {0, 1, 50, 98, 99}) {
            PathQueries g = fullOfArcs();
            due("8: one went", g.drop(gone), 99);
            due("7: its number is free", g.arc(2, 2, 7, 5), gone);
            due("7: it is the new one", g.told(12, gone), 7);
            due("7: full again", g.arc(2, 2, 7, 5), -3);
        }
        PathQueries g = fullOfArcs();
        for (int k : new int[] {99, 0, 7, 42}) {
            g.drop(k);
        }
        for (int k : new int[] {0, 7, 42, 99, -3}) {
            due("7: in their order", g.arc(2, 2, 7, 5), k);
        }
    }

    private static void dropBounds() {
        PathQueries g = fullOfArcs();
        for (int k : beyond(99)) {
            due("8: arc " + k, g.drop(k), -1);
        }
        due("8: none went", g.told(1, 0), 100);
        due("8: the last", g.drop(99), 99);
        due("8: gone", g.drop(99), -1);
        due("8: the first", g.drop(0), 98);
        due("8: gone", g.drop(0), -1);
        for (int k = 1; k < 99; k++) {
            due("8: how many are left", g.drop(k), 98 - k);
        }
        due("8: the first number again", g.arc(0, 0, 0, 0), 0);
        due("8: none left", g.drop(0), 0);
    }

    private static void toldKinds() {
        PathQueries g = nodes(1);
        g.arc(0, 0, 0, 0);
        for (int what : beyond(13)) {
            due("9: what " + what, g.told(what, 0), 10000);
        }
        due("9: the last of the graph", g.told(2, 0), 0);
        due("9: the first of a node", g.told(3, 0), 0);
        due("9: the last of a node", g.told(9, 0), 1);
        due("9: the first of an arc", g.told(10, 0), 0);
        due("9: the last of an arc", g.told(13, 0), 0);
        for (int k : beyond(0)) {
            due("9: of the graph, k " + k, g.told(0, k), 1);
            due("9: of the graph, k " + k, g.told(1, k), 1);
            due("9: of the graph, k " + k, g.told(2, k), 0);
        }
        for (String label : new String[] {"D", "A", "C", "B"}) {
            Check.rule(g, "rule " + label + " match (x) give x, x");
        }
        due("9: four rules", g.told(2, 0), 4);
    }

    private static void toldNodes() {
        for (int count = 1; count <= 16; count += 15) {
            PathQueries g = nodes(count);
            for (int what = 3; what < 10; what++) {
                due("9: the last node", g.told(what, count - 1), 0);
                for (int n : beyond(count - 1)) {
                    due("9: " + what + " of node " + n, g.told(what, n), 10000);
                }
            }
        }
    }

    private static void toldArcs() {
        PathQueries g = fullOfArcs();
        for (int what = 10; what < 14; what++) {
            due("9: the last arc", g.told(what, 99), what == 11 ? 1 : what == 13 ? 99 : 0);
            for (int k : beyond(99)) {
                due("9: " + what + " of arc " + k, g.told(what, k), 10000);
            }
        }
        g.drop(50);
        g.drop(99);
        for (int what = 10; what < 14; what++) {
            due("9: of a free number", g.told(what, 50), 10000);
            due("9: of the last one", g.told(what, 99), 10000);
            due("9: in front of it", g.told(what, 49), what == 11 ? 1 : what == 13 ? 49 : 0);
        }
    }

    private static void toldLoops() {
        PathQueries g = nodes(1);
        g.arc(0, 0, 0, 0);
        due("9: from it", g.told(8, 0), 1);
        due("9: to it", g.told(9, 0), 1);
        due("17: to itself", g.leads(0, 0, 0), 1);
        due("10: it goes once", g.bare(0), 1);
        due("9: none", g.told(1, 0), 0);
    }

    private static void bareBounds() {
        for (int count = 1; count <= 16; count += 5) {
            PathQueries g = nodes(count);
            g.mark(count - 1, 255);
            g.arc(count - 1, 0, 0, 0);
            for (int c = 0; c < 4; c++) {
                g.put(count - 1, c, 9999);
            }
            for (int n : beyond(count - 1)) {
                due("10: node " + n, g.bare(n), -1);
            }
            due("10: its arc", g.told(1, 0), 1);
            due("10: its marks", g.told(3, count - 1), 255);
            due("10: the last", g.bare(count - 1), 1);
            for (int what = 3; what < 10; what++) {
                due("10: none, 0", g.told(what, count - 1), 0);
            }
            due("10: nodes", g.told(0, 0), count);
        }
    }

    private static void bareOfAllArcs() {
        PathQueries g = fullOfArcs();
        due("10: one that has none", g.bare(2), 0);
        due("10: all are there", g.told(1, 0), 100);
        due("10: those to it", g.bare(1), 100);
        due("10: none is left", g.told(1, 0), 0);
        due("10: nothing leads", g.leads(0, 1, 0), 0);
        due("10: numbers are free", g.arc(0, 0, 0, 0), 0);
    }

    private static void bareOfNothing() {
        PathQueries g = nodes(2);
        g.mark(1, 3);
        g.put(1, 3, 5);
        due("10: nothing went", g.bare(0), 0);
        due("10: the other's marks", g.told(3, 1), 3);
        due("10: the other's column", g.told(7, 1), 5);
    }
}
