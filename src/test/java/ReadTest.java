/** Promises 11, 12 and 14, and what '2 TEXTS' says: tokens, the grammar, faults and their places. */
public final class ReadTest {
    private static final Check CHECK = new Check();
    private static final String M = "match (x) where ";

    public static void main(String[] args) {
        question();
        rule();
        place();
        tokens();
        grammar();
        tooMuch();
        tooDeep();
        names();
        leasts();
        lastOnes();
        CHECK.end("ReadTest");
    }

    private static void due(String call, long got, long want) {
        CHECK.due(call, got, want);
    }

    private static void fault(String text, int fault, int place) {
        CHECK.dueFault(text, fault, place);
    }

    private static void fine(String text) {
        CHECK.dueFault(text, 0, 0);
    }

    /** The fault is at the first sign of this text that is marked by a #, which goes. */
    private static void marked(int fault, String text) {
        int at = text.indexOf('#');
        CHECK.dueFault(text.substring(0, at) + text.substring(at + 1), fault, at);
    }

    private static void markedRule(int fault, String text) {
        int at = text.indexOf('#');
        CHECK.dueRuleFault(text.substring(0, at) + text.substring(at + 1), fault, at);
    }

    private static String many(String part, int times) {
        return part.repeat(times);
    }

    private static void question() {
        PathQueries g = new PathQueries();
        g.node(0);
        due("11: items", Check.question(g, 0, "match (x) give x"), 1);
        due("11: items", Check.question(g, 3, "match (x) give x, x.c0, count, 1, 2, 3, 4, 5"), 8);
        due("11: the tape is empty", g.cut(0), 0);
        due("11: asked", g.ask(3), 1);
        Check.feed(g, "match (x) give x");
        due("11: no such", g.question(4), -1);
        due("11: no such", g.question(-1), -1);
        due("11: the tape stays", g.cut(0), 16);
        due("11: it is read", g.question(1), 1);
        due("11: fault", Check.question(g, 3, "match (x) give y"), -15);
        due("11: the tape is empty then, too", g.cut(0), 0);
        due("11: the one before stays", g.ask(3), 1);
        due("11: with its items", g.answer(3, 0, 7), 5);
        due("11: in its place", Check.question(g, 3, "match (x) give x + 7"), 1);
        due("11: the new one", g.ask(3), 1);
        due("11: its value", g.answer(3, 0, 0), 7);
        due("11: nothing on the tape", g.question(0), -12);
        due("11: at", g.place(), 0);
        due("11: the others are as they were", g.ask(1), 1);
        due("11: a rule is no question", Check.question(g, 0, "rule A match (x) give x, x"), -12);
    }

    private static void rule() {
        PathQueries g = new PathQueries();
        g.node(0);
        g.node(0);
        due("12: rule", Check.rule(g, "rule A match (x) give x, x"), 0);
        due("12: rule", Check.rule(g, "rule D match (x), (y) give x, y"), 3);
        due("12: the tape is empty", g.cut(0), 0);
        due("12: rules", g.told(2, 0), 2);
        due("12: in place of that", Check.rule(g, "rule A match (x), (y) where x = 1 give x, y"), 0);
        due("12: rules", g.told(2, 0), 2);
        due("12: its arcs", g.pairs(0), 2);
        due("12: fault", Check.rule(g, "rule A match (x) give x"), -12);
        due("12: place", g.place(), 23);
        due("12: the tape is empty then, too", g.cut(0), 0);
        due("12: the one before stays", g.pairs(0), 2);
        due("12: a question is no rule", Check.rule(g, "match (x) give x"), -12);
        due("12: nothing on the tape", g.rule(), -12);
        CHECK.dueRuleFault("rule B match (x)-[A B ^C _]->(y) where no (x)-[a]->(z) give y, x", 0, 0);
        markedRule(2, "rule #a match (x) give x, x");
        markedRule(2, "rule #match (x) give x, x");
        markedRule(2, "rule A #(x) give x, x");
        markedRule(2, "rule A match (x) give #1, x");
        markedRule(2, "rule A match (x) give x #x");
        markedRule(2, "rule A match (x) give x#.c0, x");
        markedRule(2, "rule A match (x) give x, x#, x");
        markedRule(2, "rule A match (x) give x, x #limit 3");
        markedRule(2, "rule A match (x) give #count, x");
        markedRule(5, "rule A match (x)-least w[a]->(y) give #w, x");
        markedRule(5, "rule A match (x)-least w[a]->(y) give x, #w");
        markedRule(5, "rule A match (x) give x, #y");
        markedRule(5, "rule A match (x) where no (x)-[a]->(y) give x, #y");
        markedRule(6, "rule A match (x) where no (x)-[a #A]->(y) give x, x");
    }

    private static void place() {
        PathQueries g = new PathQueries();
        due("14: at first", g.place(), -2);
        Check.question(g, 0, "match (x) give x x");
        due("14: place", g.place(), 17);
        due("14: it stays", g.place(), 17);
        otherCallsLeaveIt(g);
        due("14: other calls", g.place(), 17);
        Check.question(g, 0, "match (x) give x");
        due("14: no fault", g.place(), -2);
        Check.rule(g, "rule A rule");
        due("14: of a rule", g.place(), 7);
        due("14: no such question", g.question(4), -1);
        due("14: which is no fault", g.place(), -2);
        Check.question(g, 0, "match (x) give x x");
        due("14: no such question below", g.question(-1), -1);
        due("14: which is none either", g.place(), -2);
        Check.question(g, 0, "match (x) give x x");
        due("14: a fault once more", g.place(), 17);
        Check.feed(g, "match (x) give");
        g.question(7);
        due("14: the tape's fault is not met yet", g.place(), -2);
        due("14: but by the next call", g.question(0), -12);
        due("14: whose place is told", g.place(), 14);
        Check.rule(g, "rule A match (x) give x, x");
        due("14: none of a rule", g.place(), -2);
    }

    private static void otherCallsLeaveIt(PathQueries g) {
        g.feed(0, 0, 0, 0, 0);
        g.cut(20);
        g.cut(1);
        g.node(0);
        g.forget(0);
        g.forget(9);
        g.ask(0);
        g.ask(9);
        g.answer(9, 0, 0);
        g.pairs(9);
        g.least(9, 0, 0);
    }

    private static void tokens() {
        fine("match(x)give x");
        fine("\tmatch\r\n(x)give\nx\t");
        fine("match(x:m0:m7)give x.c0*-x.c3+9999-0000");
        fine("match (x0),(x9),(y),(z1),(u),(v),(w) give x0");
        fine("match (x)-[abcdefgh]->(y) give x".replace("abcdefgh", "a b c d e f g h"));
        fine("match (x)-[A B C D _ ^_ ^a]->(y) give x");
        marked(1, "#Match (x) give x");
        marked(1, "match (x) #givex");
        marked(1, "match (x)#12345 give x");
        marked(1, "match (#x10) give x");
        marked(1, "match (x:#m8) give x");
        marked(1, "match (x) give x.#c4");
        marked(1, "match (x)-[#ab]->(y) give x");
        marked(1, "match (x)-[#E]->(y) give x");
        marked(1, "match (x) where x #! = x give x");
        marked(1, "match (x) where x #!x give x");
        marked(1, "match (x) give 1, #1x");
        marked(1, "match (#s) give s");
        marked(1, "match (#t0) give t0");
        marked(1, "match (x) give x #;");
        marked(1, "match (x) give x #\u00e9");
        marked(1, "match (x) give x #\u0000");
        marked(1, "match (x) give x #/");
        marked(1, "match (x) give x #'");
        marked(1, "match (x) give x #\u000b");
        marked(2, "match (x) where x #<-1 give x");
        fine("match (x) where x< -1 give x");
        fine("match (x) where x>=-1 give x--1");
        marked(2, "match (x) where x>#= -1 give x".replace(">#=", "> #="));
        marked(2, "match (x) give x #->1");
        marked(2, "match (x)-[a]- #>(y) give x".replace("]- #", "]#- "));
        marked(1, "match (x) where #m give x");
        marked(1, "match (x) where #matc give x");
    }

    private static void grammar() {
        fault("", 2, 0);
        fault("   ", 2, 3);
        fault("match", 2, 5);
        fault("match (x)", 2, 9);
        fault("match (x) give", 2, 14);
        fault("match (x) give ", 2, 15);
        fault("match (x) give x limit", 2, 22);
        fault("match (x) give x,", 2, 17);
        fault("match (x)-[a]->", 2, 15);
        marked(2, "match #x give x");
        marked(2, "match (x #x) give x");
        marked(2, "match (x:#x) give x");
        marked(2, "match (x:m0 #m1) give x");
        marked(2, "match (x)#(y) give x");
        marked(2, "match (x)#->(y) give x");
        marked(2, "match (x)-#(y) give x");
        marked(2, "match (x)-[#]->(y) give x");
        marked(2, "match (x)-[a#.]->(y) give x");
        marked(2, "match (x)-[a|#]->(y) give x");
        marked(2, "match (x)-[(#)]->(y) give x");
        marked(2, "match (x)-[(a#]->(y) give x");
        marked(2, "match (x)-[a#)]->(y) give x");
        marked(2, "match (x)-[a*#*]->(y) give x");
        marked(2, "match (x)-[#*]->(y) give x");
        marked(2, "match (x)-[^#^a]->(y) give x");
        marked(2, "match (x)-[^#(a)]->(y) give x");
        marked(2, "match (x)-[a]#-(y) give x");
        marked(2, "match (x)<-[a]#->(y) give x");
        marked(2, "match (x)-least #[a]->(y) give x");
        marked(2, "match (x)-least w#->(y) give x");
        marked(2, "match (x)<-least w#-(y) give x");
        marked(2, "match (x)-[a]#[a]->(y) give x");
        marked(2, "match (x)-[a] #least w->(y) give x");
        marked(2, "match (x)-least w w[a]->(y) give x".replace("w w", "w #w"));
        marked(2, "match (x) where #give x");
        marked(2, "match (x) where x #give x");
        marked(2, "match (x) where x = #give x");
        marked(2, "match (x) where x = 1 #= 1 give x");
        marked(2, "match (x) where x = 1 and #give x");
        marked(2, "match (x) where [x = 1 #give x");
        marked(2, "match (x) where x = 1#] give x");
        marked(2, "match (x) where (x #= 1) give x");
        marked(2, "match (x) where (x + 1#] = 1 give x");
        marked(2, "match (x) where no #x = 1 give x");
        marked(2, "match (x) where no (x)#, (x) give x");
        marked(2, "match (x) where no [a] give x".replace("no [", "no #["));
        marked(2, "match (x) where x = 1 #where x = 2 give x");
        marked(2, "match (x) give x #= 1");
        marked(2, "match (x) give x #and 1");
        marked(2, "match (x) give count #x");
        marked(2, "match (x) give sum #count");
        marked(2, "match (x) give x #+, 1".replace("#+,", "+#,"));
        marked(2, "match (x) give (x#, 1");
        marked(2, "match (x) give x.#x");
        marked(2, "match (x) give x.c0#.c0");
        marked(2, "match (x) give 1#.c0");
        marked(2, "match (x) give x limit #x");
        marked(2, "match (x) give x limit 1 #, x");
        marked(2, "match (x) give x #limit 1 limit 2".replace("#limit 1 ", "limit 1 #"));
        marked(2, "match (x) give x, #limit 1");
        marked(6, "match (x) give x limit #0");
        marked(6, "match (x) give x limit #0000");
        fine("match (x) give x limit 1");
        fine("match (x) give x limit 9999");
        fine(M + "not not [x = 1 or no (x)] and [[x < 2]] give -(-x), max -x, min (x)");
        fine("match (x)<-least w[a*(b|^c+)?|_]-(), (:m1)-[a]->(x:m0) where w < 3 give w, x");
    }

    private static void tooMuch() {
        fine("match (x)" + many("-[a]->(x)", 10) + " give x");
        fault("match (x)" + many("-[a]->(x)", 11) + " give x", 3, 99);
        fault("match (x)" + many("-[a]->(x)", 10) + "<-[a]-(x) give x", 3, 99);
        fault("match (x)" + many("-[a]->(x)", 9) + " where no (x)-[a]->(x)-[a]->(x) give x", 3, 112);
        fine("match (x)-[" + many("a", 16).replace("", " ") + "]->(y) give x");
        fine("match (x)-[" + many("^_", 16) + "]->(y)-[" + many("^_", 16) + "]->(y) give x");
        fault("match (x)-[" + many("^_", 17) + "]->(y) give x", 3, 43);
        fault("match (x)-[" + many("_", 17) + "]->(y) give x", 3, 27);
        fault("match (x)-[" + many("_", 15) + "(_|_)]->(y) give x", 3, 29);
        fault("match (x)-[" + many("_", 16) + "(]->(y) give x", 2, 28);
        fine("match (x) give " + many("1,", 7) + "1");
        fault("match (x) give " + many("1,", 8) + "1", 3, 31);
        fault("match (x) give " + many("1,", 8) + "count", 3, 31);
        fault("match (x) give " + many("1,", 8) + "limit 3", 2, 31);
        fault("match (x) give " + many("1,", 8) + "y", 3, 31);
        fault("match (x) give " + many("1,", 8) + "#", 1, 31);
    }

    private static void tooDeep() {
        fine("match (x)-[" + many("(", 10) + "a" + many(")", 10) + "]->(y) give x");
        fault("match (x)-[" + many("(", 11) + "a" + many(")", 11) + "]->(y) give x", 3, 22);
        fault("match (x)-[" + many("(", 11) + "give", 3, 22);
        fault("match (x)-[" + many("(", 11) + "#", 1, 22);
        fault("match (x)-[" + many("(", 11), 3, 22);
        fault("match (x)-[" + many("(", 12), 3, 22);
        fault("match (x)-[" + many("(", 10), 2, 21);
        fine(M + many("[", 10) + "x=1" + many("]", 10) + " give x");
        fault(M + many("[", 11) + "x=1" + many("]", 11) + " give x", 3, 27);
        fine(M + many("not ", 10) + "x=1 give x");
        fault(M + many("not ", 11) + "x=1 give x", 3, 60);
        fine("match (x) give " + many("-", 10) + "x");
        fault("match (x) give " + many("-", 11) + "x", 3, 26);
        fault("match (x) give " + many("-", 11) + "y", 3, 26);
        fine("match (x) give " + many("(", 10) + "x" + many(")", 10));
        fault("match (x) give " + many("(", 11) + "x" + many(")", 11), 3, 26);
        fine(M + "[not [-(-(1+2)) = 1] and not [-(1)=2]] and " + many("[", 10) + "x=1" + many("]", 10) + " give x");
        fault(M + many("[not ", 5) + "-x = 1" + many("]", 5) + " give x", 3, 42);
        fault(M + many("[not ", 5) + "no (x)-[(a)]->(x) give x", 3, 50);
        fine(M + many("[not ", 5) + "no (x)-[a]->(x)" + many("]", 5) + " give x");
        fine("match (x)-[" + many("(a)", 12) + "]->(x) where x=-1 and " + many("x=-(1) and ", 12) + "not x=1 give x");
        fine("match (x) give " + many("-x*", 12) + "-x");
        fine(M + many("not x=1 or ", 12) + "x=1 give x");
    }

    private static void names() {
        String eight = "match (x),(y),(z),(u),(v),(w),(x1),(x2)";
        fine(eight + ",(x) give x");
        marked(3, eight + ",(#x3) give x");
        marked(3, eight + ",#() give x");
        marked(3, eight + ",#(:m0) give x");
        marked(2, eight + ",(#,) give x");
        marked(3, eight + ",(x)-least #u1[a]->(x) give x");
        marked(3, eight + " where #x3 = 1 give x");
        marked(3, eight + " give #x3");
        fine("match (),(),(),(),(),(),(),() give 1");
        marked(3, "match (),(),(),(),(),(),(),(),#() give 1");
        marked(3, "match (),(),(),(),(),(),(x)-least y[a]->#() give 1");
        fine("match (),(),(),(),(),(),(x)-least y[a]->(x) give 1");
        marked(5, "match (x) give #y");
        marked(5, "match (x) give #x1");
        marked(5, "match (x) where #y = 1 give x");
        marked(5, "match (x) where no (x)-[a]->(y) and #y = 1 give x");
        fine("match (x) where no (x)-[a]->(y) and no (y)-[a]->(x) give x");
        marked(5, "match (x) where no (y) and x = 1 give #y");
        fine("match (x) where no (y) and no (y) and no (z) and no (u) and no (v) and no (w) and no (x1) and no (x2) give x");
        marked(3, "match (x) where no (y) and no () and no (z) and no (u) and no (v) and no (w) and no (x1) and no (#x2) give x");
        marked(6, "match (x) where no (x)-[#A]->(y) give x");
        marked(6, "match (x) where no (x)-[a|^#D]->(y) give x");
        fine("match (x)-[A]->(y) where no (x)-[a]->(y) or x = y give x");
    }

    private static void leasts() {
        marked(4, "match (x)-least #x[a]->(y) give x");
        marked(4, "match (x)-least w[a]->(#w) give x");
        marked(4, "match (x)-least w[a]->(y)-least #w[a]->(x) give x");
        marked(4, "match (x)-least w[a]->(y), (#w) give x");
        marked(4, "match (x)-least w[a]->(y) where no (#w) give x");
        marked(4, "match (x)-least w[a]->(y) where no (x)-least #w[a]->(y) give x");
        marked(4, "match (x)-least w[a]->(y) where no (x)-least #y[a]->(y) give x");
        marked(4, "match (x) where no (x)-[a]->(y) and no (x)-least #y[a]->(z) give x");
        marked(4, "match (x) where no (x)-least w[a]->(y) and no (#w) give x");
        marked(5, "match (x)-least w[a]->(y) give w.#c0");
        marked(5, "match (x)-least w[a]->(y) where w.#c0 = 1 give w");
        marked(2, "match (x)-least w[a]->(y) give w.#x");
        marked(5, "match (x) where no (x)-least w[a]->(y) and #w = 1 give x");
        fine("match (x)<-least w[a]-(y) where w = 1 give w * w");
    }

    /** The 201st token: its lesser faults are told, its greater ones are not. */
    private static void lastOnes() {
        fault(filled(" give x limit 7", 200), 0, 0);
        lastFault(6, " give x limit ", "0", 200);
        lastFault(3, " give x limit ", "0", 201);
        lastFault(3, " give x limit ", "7", 201);
        lastFault(2, " give x limit ", "x", 201);
        lastFault(1, " give x limit ", "x7x", 201);
        lastFault(5, " give w.", "c0", 200);
        lastFault(3, " give w.", "c0", 201);
        lastFault(2, " give w.", "x", 201);
        lastFault(5, " give ", "z", 200);
        lastFault(3, " give ", "z", 201);
        lastFault(4, " and no (x)-least ", "w", 200);
        lastFault(3, " and no (x)-least ", "w", 201);
        lastFault(6, " and no (x)-[", "A", 200);
        lastFault(3, " and no (x)-[", "A", 201);
        lastFaultAtEnd(2, " give x.", 200);
        lastFault(2, " give x, ", ",", 201);
        lastFault(3, " give x ", ",", 201);
        String complete = filled(" give x", 200);
        fault(complete, 0, 0);
        fault(complete + " x", 2, complete.length() + 1);
        fault(complete + " +", 3, complete.length() + 1);
        fault(complete + " + #", 3, complete.length() + 1);
        fault(complete + " #", 1, complete.length() + 1);
        String end = filled(" give x,", 200);
        fault(end, 2, end.length());
    }

    /** The last token, the one of that number, is at fault. */
    private static void lastFault(int fault, String tail, String last, int number) {
        String text = filled(tail + last, number);
        fault(text, fault, text.length() - last.length());
    }

    private static void lastFaultAtEnd(int fault, String tail, int number) {
        String text = filled(tail, number);
        fault(text, fault, text.length());
    }

    /** A text of so many tokens that ends so. */
    private static String filled(String tail, int number) {
        String head = "match (x)-least w[a]->(y) where ";
        int rest = number - count(head) - count(tail) - 3;
        return head + many("x=1 and ", rest / 4) + "x=" + many("-", rest % 4) + "1" + tail;
    }

    private static int count(String text) {
        int count = 0;
        java.util.regex.Matcher m = java.util.regex.Pattern.compile("[A-Za-z0-9]+|->|<-|[^ ]").matcher(text);
        while (m.find()) {
            count++;
        }
        return count;
    }
}
