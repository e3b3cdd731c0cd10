/** Boundary cases of FAULTS 3 to 6 and of their places, and of promises 11 to 14. */
public final class FaultEdgeTest {
    private static final Check CHECK = new Check();
    private static final String[] NAMES = {"x", "y", "z", "u", "v", "w", "x1", "x2", "x3"};

    public static void main(String[] args) {
        questionNumbers();
        questionItems();
        questionAtFault();
        ruleLabels();
        ruleAtFault();
        forgetBounds();
        placeOfTheLatest();
        tokensOfAQuestion();
        tokensOfARule();
        lastTokenHasLesserFault();
        namelessNodeAtTheLastToken();
        namedNodes();
        namelessNodes();
        nodesOfNo();
        sameNameOnceMore();
        leastsCountAsNames();
        namesInExps();
        waysInARow();
        waysOfAllPatterns();
        waysOfNo();
        steps();
        stepsWithBack();
        stepsInside();
        stepsOfEachWay();
        items();
        itemsOfEachKind();
        openRows();
        openExps();
        openConds();
        openNots();
        openMinuses();
        openOnesTogether();
        closedOnes();
        behindTheEleventh();
        toldBefore();
        notKnown();
        columnsOfLeast();
        ruleGives();
        ruleLabelBehindNo();
        limitNumbers();
        CHECK.end("FaultEdgeTest");
    }

    private static void due(String call, long got, long want) {
        CHECK.due(call, got, want);
    }

    /** Without a # the text has no fault; else it is at the sign behind #, which goes. */
    private static void read(int fault, String text) {
        int at = text.indexOf('#');
        String plain = at < 0 ? text : text.substring(0, at) + text.substring(at + 1);
        if (text.startsWith("rule")) {
            CHECK.dueRuleFault(plain, fault, at);
        } else {
            CHECK.dueFault(plain, fault, at);
        }
    }

    private static void fine(String text) {
        read(0, text);
    }

    private static String many(String part, int times) {
        return part.repeat(times);
    }

    private static PathQueries nodes(int count) {
        PathQueries g = new PathQueries();
        for (int i = 0; i < count; i++) {
            g.node(0);
        }
        return g;
    }

    private static void questionNumbers() {
        PathQueries g = nodes(2);
        for (int q : new int[] {-1, 4, Integer.MIN_VALUE, Integer.MAX_VALUE, 256}) {
            Check.feed(g, "match (x) give x");
            due("11: q " + q, g.question(q), -1);
            due("11: the tape stays", g.cut(16), 0);
        }
        for (int q = 0; q < 4; q++) {
            due("11: q " + q, Check.question(g, q, "match (x) give " + many("x, ", q) + q), q + 1);
            due("11: the tape is empty", g.cut(1), -1);
        }
        for (int q = 0; q < 4; q++) {
            due("11: each by itself", g.ask(q), q == 0 ? 1 : 2);
            due("11: each by itself", g.answer(q, 0, q), q);
        }
    }

    private static void questionItems() {
        for (int count = 1; count <= 8; count++) {
            PathQueries g = nodes(1);
            due("11: items", Check.question(g, 0, "match (x) give 1" + many(", 1", count - 1)), count);
            due("15: one row", g.ask(0), 1);
            due("16: the last item", g.answer(0, 0, count - 1), 1);
            due("16: one behind it", g.answer(0, 0, count), 2000000000);
        }
    }

    private static void questionAtFault() {
        String[] texts = {"match (x) give !", "match (x) give", "match (x) give " + many("-", 11) + "x",
            "match (x)-least x[a]->(y) give x", "match (x) give y", "match (x) give x limit 0"};
        for (int fault = 1; fault <= 6; fault++) {
            PathQueries g = nodes(2);
            Check.question(g, 1, "match (x) give x, 7");
            g.ask(1);
            due("11: -10 less " + fault, Check.question(g, 1, texts[fault - 1]), -10 - fault);
            due("11: the tape is empty", g.cut(0), 0);
            due("11: the one before stays", g.answer(1, 1, 1), 7);
            due("11: and is asked", g.ask(1), 2);
            due("11: none came", Check.question(g, 0, texts[fault - 1]), -10 - fault);
            due("11: where none was", g.ask(0), -2);
        }
    }

    private static void ruleLabels() {
        PathQueries g = nodes(3);
        for (int label = 0; label < 4; label++) {
            String name = "" + "ABCD".charAt(label);
            due("12: label", Check.rule(g, "rule " + name + " match (x) where x < " + label + " give x, x"), label);
            due("12: rules", g.told(2, 0), label + 1);
        }
        for (int label = 0; label < 4; label++) {
            due("12: each by itself", g.pairs(label), label);
        }
        due("12: in place of the last", Check.rule(g, "rule D match (x) give x, x"), 3);
        due("12: rules", g.told(2, 0), 4);
        due("12: the new one", g.pairs(3), 3);
        due("12: the others stay", g.pairs(2), 2);
    }

    private static void ruleAtFault() {
        String[] texts = {"rule A match (x) give !", "rule A match (x) give x",
            "rule A match (x)-[" + many("(", 11) + "a", "rule A match (x)-least x[a]->(y) give x, x",
            "rule A match (x) give x, y", "rule A match (x) where no (x)-[A]->(x) give x, x"};
        for (int fault = 1; fault <= 6; fault++) {
            PathQueries g = nodes(2);
            due("12: -10 less " + fault, Check.rule(g, texts[fault - 1]), -10 - fault);
            due("12: none came", g.pairs(0), -2);
            Check.rule(g, "rule A match (x) give x, x");
            due("12: once more", Check.rule(g, texts[fault - 1]), -10 - fault);
            due("12: the tape is empty", g.cut(0), 0);
            due("12: the one before stays", g.pairs(0), 2);
            due("12: rules", g.told(2, 0), 1);
        }
    }

    private static void forgetBounds() {
        PathQueries g = nodes(1);
        for (String name : new String[] {"A", "B", "C", "D"}) {
            Check.rule(g, "rule " + name + " match (x) give x, x");
        }
        for (int label : new int[] {-1, 4, Integer.MIN_VALUE, Integer.MAX_VALUE, 8}) {
            due("13: label " + label, g.forget(label), -1);
        }
        due("13: none went", g.told(2, 0), 4);
        due("13: the first", g.forget(0), 1);
        due("13: the last", g.forget(3), 1);
        due("13: gone", g.forget(0), -2);
        due("13: gone", g.forget(3), -2);
        due("13: two are left", g.told(2, 0), 2);
        due("13: those", g.pairs(1), 1);
        due("13: those", g.pairs(2), 1);
        g.forget(1);
        g.forget(2);
        due("13: none is left", g.told(2, 0), 0);
    }

    private static void placeOfTheLatest() {
        PathQueries g = nodes(1);
        due("14: none yet", g.place(), -2);
        Check.question(g, 0, "!");
        due("14: the first byte", g.place(), 0);
        Check.rule(g, "rule A rule");
        due("14: a rule's", g.place(), 7);
        Check.question(g, 0, "match (x) give");
        due("14: a question's", g.place(), 14);
        due("14: told twice", g.place(), 14);
        Check.rule(g, "rule A match (x) give x, x");
        due("14: a rule without", g.place(), -2);
        Check.rule(g, "rule A rule");
        Check.question(g, 0, "match (x) give x");
        due("14: a question without", g.place(), -2);
        Check.rule(g, "rule A rule");
        g.question(-1);
        due("14: no such question", g.place(), -2);
        Check.rule(g, "rule A rule");
        g.question(4);
        due("14: no such question", g.place(), -2);
    }

    /** So many tokens and blanks between all of them; ends in "x, x", which both kinds of texts can. */
    private static String tokens(String head, int number) {
        int rest = number - head.split(" ").length - 8;
        return head + " where 1 = " + many("- ", rest % 4) + "1 " + many("and 1 = 1 ", rest / 4) + "give x , x";
    }

    private static void tokensOfAQuestion() {
        for (int number = 190; number <= 200; number++) {
            String text = tokens("match ( x )", number);
            due("tokens of the text", text.split(" ").length, number);
            fine(text);
        }
        for (int number = 201; number <= 206; number++) {
            String text = tokens("match ( x )", number);
            due("tokens of the text", text.split(" ").length, number);
            String front = String.join(" ", java.util.Arrays.copyOf(text.split(" "), 200));
            CHECK.dueFault(text, 3, front.length() + 1);
        }
    }

    private static void tokensOfARule() {
        for (int number = 196; number <= 200; number++) {
            fine(tokens("rule A match ( x )", number));
        }
        for (int number = 201; number <= 204; number++) {
            String text = tokens("rule A match ( x )", number);
            String front = String.join(" ", java.util.Arrays.copyOf(text.split(" "), 200));
            CHECK.dueRuleFault(text, 3, front.length() + 1);
        }
    }

    private static void lastTokenHasLesserFault() {
        String text = tokens("match ( x )", 200);
        read(3, text + " #+");
        read(3, text + " #limit");
        read(3, text + " #. c0");
        read(2, text + " #x");
        read(2, text + " #)");
        read(1, text + " #!");
        read(1, text + " #xx");
        fine(text + " ");
        String open = tokens("match ( x )", 199) + " ,";
        CHECK.dueFault(open, 2, open.length());
        read(3, open + " #x");
        read(3, open + " #y");
        read(3, open + " #count");
        read(2, open + " #limit");
        read(1, open + " #/");
        String rule = tokens("rule A match ( x )", 200);
        read(2, rule + " #,");
        read(1, rule + " #!");
        String limit = tokens("match ( x )", 198) + " limit 0";
        CHECK.dueFault(limit, 6, limit.length() - 1);
        String later = tokens("match ( x )", 199) + " limit 0";
        CHECK.dueFault(later, 3, later.length() - 1);
    }

    /** Its ( is met ahead of the 201st token, which tells that no VARIABLE comes. */
    private static void namelessNodeAtTheLastToken() {
        for (int tokens = 200; tokens <= 202; tokens++) {
            String text = "match ( )" + " , ( )".repeat(7) + " where 1 =" + " -".repeat(tokens - 196) + " 1"
                    + " and 1 = 1".repeat(41) + " and no ( )";
            due("tokens of the text", text.split(" ").length, tokens);
            CHECK.dueFault(text, 3, text.length() - 3);
        }
    }

    private static String named(int count) {
        StringBuilder text = new StringBuilder("match (x)");
        for (int i = 1; i < count; i++) {
            text.append(", (").append(NAMES[i]).append(")");
        }
        return text.toString();
    }

    private static void namedNodes() {
        fine(named(8) + " give x");
        read(3, named(8) + ", (#x3) give x");
        read(3, named(8) + ", (#x3:m0) give x");
        read(3, named(8) + "-[a]->(#x3) give x");
        read(3, named(8) + ", (x), (#x9");
        fine("rule A " + named(8) + " give x, x2");
        read(3, "rule A " + named(8) + ", (#x3) give x, x2");
        read(2, named(8) + ", (#m0) give x");
        read(1, named(8) + ", (#x33) give x");
    }

    private static void namelessNodes() {
        String eight = "match ()" + many(",()", 7);
        fine(eight + " give 1");
        read(3, eight + ",#() give 1");
        read(3, eight + ",  #(  ) give 1");
        read(3, eight + ",#(:m0) give 1");
        read(3, eight + "-[a]->#() give 1");
        read(3, eight + ",(#x) give 1");
        fine(named(7) + ",() give 1");
        read(3, named(7) + ",(),#() give 1");
        read(3, named(8) + ",#() give 1");
        read(3, "rule A " + named(8) + ",#() give x, x");
        fine(named(7) + "-[a]->(:m0:m1) give 1");
    }

    private static void nodesOfNo() {
        fine(named(7) + " where no (x2) give x");
        fine(named(7) + " where no () give x");
        read(3, named(7) + " where no (x2)-[a]->(#x3) give x");
        read(3, named(7) + " where no (x2)-[a]->#() give x");
        read(3, named(8) + " where no (#x3) give x");
        read(3, named(8) + " where no #() give x");
        fine(named(6) + " where no () and no () give x");
        read(3, named(6) + " where no () and no () and no #() give x");
        read(3, named(6) + " where no () and no (x1) and no (#x2) give x");
        fine(named(8) + " where no (x)-[a]->(x2) give x");
    }

    private static void sameNameOnceMore() {
        fine(named(8) + many(", (x2)", 5) + " give x");
        fine(named(7) + " where no (x2) and no (x2) and no (x2)-[a]->(x2) give x");
        read(3, named(7) + " where no (x2) and no (x2) and no (#x3) give x");
    }

    private static void leastsCountAsNames() {
        fine(named(7) + "-least x2[a]->(x) give x2");
        read(3, named(7) + "-least x2[a]->(#x3) give x2");
        read(3, named(7) + "-least x2[a]->#() give x2");
        read(3, named(8) + "-least #x3[a]->(x) give x");
        read(3, named(7) + "-least x2[a]->(x)-least #x3[a]->(x) give x");
        fine("match (x)-least y[a]->(x)-least z[a]->(x)-least u[a]->(x)-least v[a]->(x)-least w[a]->(x)"
                + "-least x1[a]->(x)-least x2[a]->(x) give x2");
        read(3, "match (x)-least y[a]->(x)-least z[a]->(x)-least u[a]->(x)-least v[a]->(x)-least w[a]->(x)"
                + "-least x1[a]->(x)-least x2[a]->(x)-least #x3[a]->(x) give x2");
    }

    private static void namesInExps() {
        read(5, named(7) + " give #x3");
        read(3, named(8) + " give #x3");
        read(5, named(7) + " where #x3 = 1 give x");
        read(3, named(8) + " where #x3 = 1 give x");
        read(5, "rule A " + named(7) + " give x, #x3");
        read(3, "rule A " + named(8) + " give x, #x3");
    }

    private static void waysInARow() {
        fine("match (x)" + many("-[a]->(x)", 10) + " give x");
        read(3, "match (x)" + many("-[a]->(x)", 10) + "#-[a]->(x) give x");
        fine("match (x)" + many("<-[a]-(x)", 10) + " give x");
        read(3, "match (x)" + many("<-[a]-(x)", 10) + "#<-[a]-(x) give x");
        read(3, "match (x)" + many("<-[a]-(x)", 10) + " #- give x");
        read(3, "match (x)" + many("-[a]->(x)", 10) + " #<-");
        read(2, "match (x)" + many("-[a]->(x)", 10) + " #-> give x");
        fine("rule A match (x)" + many("-[a]->(x)", 10) + " give x, x");
        read(3, "rule A match (x)" + many("-[a]->(x)", 10) + "#-least y[a]->(x) give x, x");
    }

    private static void waysOfAllPatterns() {
        fine("match (x)" + many("-[a]->(x), (x)", 10) + " give x");
        read(3, "match (x)" + many("-[a]->(x), (x)", 10) + "#-[a]->(x) give x");
        fine("match (x)" + many("-[a]->(x)<-[a]-(x), (x)", 5) + " give x");
        read(3, "match (x)" + many("-[a]->(x)<-[a]-(x), (x)", 5) + "#<-[a]-(x) give x");
    }

    private static void waysOfNo() {
        fine("match (x)" + many("-[a]->(x)", 9) + " where no (x)-[a]->(x) give x");
        read(3, "match (x)" + many("-[a]->(x)", 9) + " where no (x)-[a]->(x)#-[a]->(x) give x");
        read(3, "match (x)" + many("-[a]->(x)", 10) + " where no (x)#<-[a]-(x) give x");
        fine("match (x) where 1 = 1" + many(" and no (x)-[a]->(x)", 10) + " give x");
        read(3, "match (x) where 1 = 1" + many(" and no (x)-[a]->(x)", 10) + " or no (x)#-[a]->(x) give x");
    }

    private static void steps() {
        for (String step : new String[] {"a ", "h ", "A ", "D ", "_", "a* ", "_+", "B?"}) {
            fine("match (x)-[" + many(step, 16) + "]->(y) give x");
            read(3, "match (x)-[" + many(step, 16) + "#" + step + "]->(y) give x");
            fine("rule A match (x)<-[" + many(step, 16) + "]-(y) give x, y");
            read(3, "rule A match (x)<-[" + many(step, 16) + "#" + step + "]-(y) give x, y");
        }
        read(2, "match (x)-[" + many("a ", 16) + "#x]->(y) give x");
        read(2, "match (x)-[" + many("a ", 16) + "#->(y) give x");
        read(1, "match (x)-[" + many("a ", 16) + "#i]->(y) give x");
    }

    private static void stepsWithBack() {
        for (String step : new String[] {"^a ", "^_", "^ _ ", "^D*"}) {
            fine("match (x)-[" + many(step, 16) + "]->(y) give x");
            read(3, "match (x)-[" + many(step, 16) + "#" + step + "]->(y) give x");
        }
        read(2, "match (x)-[" + many("^a", 15) + "^#]->(y) give x");
        fine("match (x)-[" + many("^a _", 8) + "]->(y) give x");
        read(3, "match (x)-[" + many("^a _", 8) + "#_]->(y) give x");
    }

    private static void stepsInside() {
        fine("match (x)-[(" + many("a|", 15) + "a)]->(y) give x");
        read(3, "match (x)-[(" + many("a|", 16) + "#a)]->(y) give x");
        fine("match (x)-[" + many("(a b|c _)", 4) + "]->(y) give x");
        read(3, "match (x)-[" + many("(a b|c _)", 4) + "(#a)]->(y) give x");
        read(3, "match (x)-[" + many("a|", 16) + "#a]->(y) give x");
    }

    private static void stepsOfEachWay() {
        String sixteen = "-[" + many("_", 16) + "]->(x)";
        fine("match (x)" + many(sixteen, 8) + " give x");
        read(3, "match (x)" + many(sixteen, 2) + "-[" + many("_", 16) + "#_]->(x) give x");
        fine("match (x)" + sixteen + " where no (x)" + sixteen + " give x");
        read(3, "match (x)" + sixteen + " where no (x)-[" + many("_", 16) + "#_]->(x) give x");
        read(3, "match (x) where no (x)-[" + many("_", 16) + "#A]->(x) give x");
    }

    private static void items() {
        fine("match (x) give x" + many(",x", 7));
        read(3, "match (x) give x" + many(",x", 7) + ",#x");
        read(3, "match (x) give x" + many(",x", 7) + ", #x, x, x");
        CHECK.dueFault("match (x) give x" + many(",x", 7) + ",", 2, 31);
        fine("match (x) give x" + many(",x", 7) + " limit 8");
        read(2, "match (x) give x" + many(",x", 7) + ",#limit 8");
    }

    private static void itemsOfEachKind() {
        for (String item : new String[] {"x", "7", "-x", "(x)", "count", "sum x", "min x", "max x", "x.c0", "y"}) {
            read(3, "match (x) give 1" + many(",1", 7) + ",#" + item);
        }
        for (String item : new String[] {"count", "sum x", "min x", "max x", "x.c3 + 1"}) {
            fine("match (x) give " + item + many("," + item, 7));
            read(3, "match (x) give " + item + many("," + item, 7) + ",#" + item);
        }
        for (String none : new String[] {")", "+ 1", "*", ",", "where", "m0", "c0", "a", "[", "match"}) {
            read(2, "match (x) give 1" + many(",1", 7) + ",#" + none);
        }
        read(1, "match (x) give 1" + many(",1", 7) + ",#!");
    }

    private static void openRows() {
        fine("match (x)-[" + many("(", 10) + "a" + many(")", 10) + "]->(y) give x");
        read(3, "match (x)-[" + many("(", 11) + "#a" + many(")", 11) + "]->(y) give x");
        read(3, "match (x)-[" + many("a(b|", 5) + many("(", 6) + "#a" + many(")", 11) + "]->(y) give x");
        fine("rule A match (x)<-[" + many("(", 10) + "a" + many(")", 10) + "]-(y) give x, y");
        read(3, "rule A match (x)<-[" + many("(", 11) + "#a" + many(")", 11) + "]-(y) give x, y");
    }

    private static void openExps() {
        fine("match (x) give " + many("(", 10) + "x" + many(")", 10));
        read(3, "match (x) give " + many("(", 11) + "#x" + many(")", 11));
        fine("match (x) where " + many("(", 10) + "x" + many(")", 10) + " = 1 give x");
        read(3, "match (x) where " + many("(", 11) + "#x" + many(")", 11) + " = 1 give x");
        read(3, "match (x) where 1 = " + many("(", 11) + "#x" + many(")", 11) + " give x");
        fine("match (x) give sum " + many("(1 + ", 10) + "x" + many(")", 10));
        read(3, "match (x) give sum " + many("(1 + ", 10) + "(#1 + x" + many(")", 11));
    }

    private static void openConds() {
        fine("match (x) where " + many("[", 10) + "x = 1" + many("]", 10) + " give x");
        read(3, "match (x) where " + many("[", 11) + "#x = 1" + many("]", 11) + " give x");
        read(3, "match (x) where " + many("[", 11) + "#no (x)" + many("]", 11) + " give x");
        fine("match (x) where " + many("[1 = 1 and ", 10) + "x = 1" + many("]", 10) + " give x");
        read(3, "match (x) where " + many("[1 = 1 and ", 10) + "[#1 = 1" + many("]", 11) + " give x");
    }

    private static void openNots() {
        fine("match (x) where " + many("not ", 10) + "x = 1 give x");
        read(3, "match (x) where " + many("not ", 11) + "#x = 1 give x");
        fine("match (x) where " + many("not ", 10) + "no (x) give x");
        read(3, "match (x) where " + many("not ", 11) + "#no (x) give x");
        read(3, "match (x) where " + many("not ", 11) + "#not x = 1 give x");
    }

    private static void openMinuses() {
        fine("match (x) give " + many("-", 10) + "x");
        read(3, "match (x) give " + many("-", 11) + "#x");
        read(3, "match (x) give " + many("- ", 11) + "#- x");
        fine("match (x) where " + many("-", 10) + "1 = " + many("-", 10) + "x.c0 give x");
        read(3, "match (x) where 1 = " + many("-", 11) + "#1 give x");
        fine("match (x) give 1 - " + many("-", 10) + "x");
    }

    private static void openOnesTogether() {
        fine("match (x) where " + many("not [", 4) + "-(x) = 1" + many("]", 4) + " give x");
        read(3, "match (x) where " + many("not [", 5) + "-#(x) = 1" + many("]", 5) + " give x");
        read(3, "match (x) where " + many("not [", 4) + "-(-#x) = 1" + many("]", 4) + " give x");
        fine("match (x) where " + many("not [", 4) + "no (x)-[((a))]->(x)" + many("]", 4) + " give x");
        read(3, "match (x) where " + many("not [", 4) + "no (x)-[(((#a)))]->(x)" + many("]", 4) + " give x");
        fine("match (x) where " + many("[", 10) + "no (x)-[a]->(:m0)" + many("]", 10) + " give x");
        fine("match (x) give " + many("-(", 5) + "x" + many(")", 5));
        read(3, "match (x) give " + many("-(", 5) + "-#x" + many(")", 5));
    }

    private static void closedOnes() {
        fine("match (x)-[" + many("(a)", 16) + "]->(y) give " + many("(1)+", 15) + "(x)");
        fine("match (x) give " + many("-1-", 15) + "-x");
        fine("match (x) where " + many("not x = 1 and ", 15) + "x = 1 give x");
        fine("match (x) where " + many("[x = 1] and ", 15) + "x = 1 give x");
        fine("match (x) where not -x = -1 and " + many("[", 10) + "x = 1" + many("]", 10) + " give " + many("(", 10) + "x"
                + many(")", 10));
        fine("match (x) where " + many("[", 9) + "not x = 1 or not x = 1" + many("]", 9) + " give x");
        read(3, "match (x) where " + many("[", 9) + "not x = 1 or not -#x = 1" + many("]", 9) + " give x");
        fine("match (x) where " + many("(", 9) + "-x * -x - -x" + many(")", 9) + " = 1 give x");
        read(3, "match (x) where " + many("(", 9) + "-x * -x - --#x" + many(")", 9) + " = 1 give x");
        fine("match (x) where " + many("[", 9) + "not no (x)-[a]->(x) and not x = 1" + many("]", 9) + " give x");
    }

    private static void behindTheEleventh() {
        String rows = "match (x)-[" + many("(", 11);
        String exps = "match (x) give " + many("-", 11);
        String conds = "match (x) where " + many("[", 11);
        for (String token : new String[] {"a", ")", "give", "9", "(", "]", "->", "y", ","}) {
            read(3, rows + "#" + token);
            read(3, exps + (token.equals("->") ? " #" : "#") + token);
            read(3, conds + "#" + token);
        }
        read(1, rows + "#!");
        read(1, exps + "#i");
        read(1, conds + "#xx");
        CHECK.dueFault(rows, 3, rows.length());
        CHECK.dueFault(exps + " ", 3, exps.length() + 1);
        CHECK.dueFault(conds, 3, conds.length());
        CHECK.dueFault(rows.substring(1), 1, 0);
        CHECK.dueFault(conds.substring(0, conds.length() - 1), 2, conds.length() - 1);
    }

    private static void toldBefore() {
        read(4, "match (x)-least #x[a]->(y) give x");
        read(4, "match (x), (y)-least #x[a]->(z) give x");
        read(4, "match (x)-least y[a]->(#y) give x");
        read(4, "match (x)-least y[a]->(z), (#y) give x");
        read(4, "match (x)-least y[a]->(z)-least #y[a]->(x) give x");
        read(4, "match (x)-least y[a]->(z) where no (#y) give x");
        read(4, "match (x)-least y[a]->(z) where no (x)-least #y[a]->(x) give x");
        read(4, "match (x) where no (x)-least #x[a]->(x) give x");
        read(4, "match (x) where no (y)-least #y[a]->(x) give x");
        read(4, "rule A match (x)-least #x[a]->(y) give x, y");
        fine("match (x)-least y[a]->(z)-least u[a]->(x) give y, u");
        read(4, named(7) + "-least x2[a]->(#x2) give x");
        read(4, named(8) + "-least #x2[a]->(x) give x");
    }

    private static void notKnown() {
        read(5, "match (x) give #y");
        read(5, "match (x) give x + #y");
        read(5, "match (x) give #y.c0");
        read(5, "match (x) give sum #y");
        read(5, "match () give #x");
        read(5, "match (x) where no (y) and #y = 1 give x");
        read(5, "match (x) where no (y) give #y");
        read(5, "match (x) where no (x)-least y[a]->(x) and #y = 1 give x");
        read(5, "match (x) where #y = 1 and no (y) give x");
        fine("match (x) where no (y) and no (y) give x");
        fine("match (x)-[a]->(y)-[a]->(x) give y");
        fine("match (x)-least w[a]->(y) where w = 1 give w");
    }

    private static void columnsOfLeast() {
        read(5, "match (x)-least w[a]->(y) give w.#c0");
        read(5, "match (x)-least w[a]->(y) give w . #c3");
        read(5, "match (x)-least w[a]->(y) where w.#c1 = 1 give w");
        read(2, "match (x)-least w[a]->(y) give w.#m0");
        read(1, "match (x)-least w[a]->(y) give w.#c4");
        fine("match (x)-least w[a]->(y) give w, x.c0, y.c3");
    }

    private static void ruleGives() {
        fine("rule A match (x)-least w[a]->(y) where w = 1 give x, y");
        fine("rule A match (x)-least w[a]->(y) where w = 1 give y, y");
        read(5, "rule A match (x)-least w[a]->(y) give #w, y");
        read(5, "rule A match (x)-least w[a]->(y) give y, #w");
        read(5, "rule A match (x) give #y, x");
        read(5, "rule A match (x) where no (y) give x, #y");
        read(2, "rule A match (x) give #7, x");
        read(2, "rule A match (x) give x#.c0, x");
        read(2, "rule A match (x) give x, x #limit 1");
        CHECK.dueRuleFault("rule A match (x) give x,", 2, 24);
        CHECK.dueRuleFault("rule A match (x) give x", 2, 23);
    }

    private static void ruleLabelBehindNo() {
        for (String label : new String[] {"A", "B", "C", "D"}) {
            read(6, "match (x) where no (x)-[#" + label + "]->(x) give x");
            read(6, "match (x) where no (x)-[^#" + label + "]->(x) give x");
            read(6, "match (x) where no (x)<-[a|(b #" + label + ")]-(x) give x");
            read(6, "rule D match (x) where no (x)-[_]->(x)-[#" + label + "]->(x) give x, x");
            fine("match (x)-[" + label + "]->(y) where no (x)-[a]->(x) and x = 1 give x");
            fine("rule A match (x)-[" + label + "]->(y) where no (x)-[a]->(x) give x, x");
        }
        fine("match (x) where no (x)-[a b c d e f g h _ ^_]->(x) give x");
    }

    private static void limitNumbers() {
        for (String zero : new String[] {"0", "00", "000", "0000"}) {
            read(6, "match (x) give x limit #" + zero);
        }
        for (String some : new String[] {"1", "01", "0001", "9999", "10"}) {
            fine("match (x) give x limit " + some);
        }
        read(1, "match (x) give x limit #10000");
        read(1, "match (x) give x limit #00000");
        read(2, "match (x) give x limit #-1");
        read(2, "match (x) give x limit #x");
        read(2, "match (x) give x limit 1 #1");
        CHECK.dueFault("match (x) give x limit", 2, 22);
    }
}
