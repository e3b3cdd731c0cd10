import java.util.Set;

/** Boundary cases of THE TAPE's bytes and of TOKENS: what is one, what is none, and where one ends. */
public final class TokenEdgeTest {
    private static final Check CHECK = new Check();
    private static final String FRAME = "match (x) give (x ";
    private static final String NAMES = "abcdefghijklmnopqrstuvwxyzABCDEFGHIJKLMNOPQRSTUVWXYZ0123456789";
    private static final String LABELS = "abcdefghABCD";
    private static final String VARIABLES = "xyzuvw";
    private static final String[] WORDS = {"match", "where", "give", "limit", "and", "or", "not", "no", "least",
        "count", "sum", "min", "max", "rule"};

    public static void main(String[] args) {
        everyByte();
        everyLetterAndDigit();
        everyTwoOfThem();
        everyThreeLetters();
        threeWithDigits();
        words();
        variables();
        marks();
        columns();
        labels();
        numbers();
        blanks();
        blanksAreNeeded();
        asLongAsCanBe();
        halfSigns();
        lastByteOfTheTape();
        firstFaultOnly();
        CHECK.end("TokenEdgeTest");
    }

    private static void due(String call, long got, long want) {
        CHECK.due(call, got, want);
    }

    private static void fine(String text) {
        CHECK.dueFault(text, 0, 0);
    }

    /** The fault is at the sign behind #, which goes. */
    private static void marked(int fault, String text) {
        int at = text.indexOf('#');
        CHECK.dueFault(text.substring(0, at) + text.substring(at + 1), fault, at);
    }

    /** Where a sign of an exp is due, what is none has FAULT 1, and any other token FAULT 2. */
    private static void dueToken(String token, boolean isToken) {
        CHECK.dueFault(FRAME + token + " ", isToken ? 2 : 1, FRAME.length());
    }

    private static void everyByte() {
        String rest = "([]:,_^?|=<>";
        for (int b = 0; b < 256; b++) {
            String c = "" + (char) b;
            int end = FRAME.length() + 2;
            if (b == 9 || b == 10 || b == 13 || b == 32) {
                CHECK.dueFault(FRAME + c + " ", 2, end);
            } else if (c.equals(")")) {
                fine(FRAME + c + " ");
            } else if ("+-*.".contains(c)) {
                CHECK.dueFault(FRAME + c + " ", 2, end);
            } else {
                dueToken(c, rest.contains(c) || (LABELS + VARIABLES + "0123456789").contains(c));
            }
        }
    }

    private static void everyLetterAndDigit() {
        for (int i = 0; i < NAMES.length(); i++) {
            String one = NAMES.substring(i, i + 1);
            dueToken(one, (LABELS + VARIABLES).contains(one) || Character.isDigit(one.charAt(0)));
        }
    }

    private static void everyTwoOfThem() {
        for (int i = 0; i < NAMES.length(); i++) {
            for (int k = 0; k < NAMES.length(); k++) {
                String two = "" + NAMES.charAt(i) + NAMES.charAt(k);
                dueToken(two, two.matches("or|no|[xyzuvw][0-9]|m[0-7]|c[0-3]|[0-9][0-9]"));
            }
        }
    }

    private static void everyThreeLetters() {
        Set<String> words = Set.of("and", "not", "sum", "min", "max");
        for (int i = 0; i < 26 * 26 * 26; i++) {
            String three = "" + NAMES.charAt(i / 676) + NAMES.charAt(i / 26 % 26) + NAMES.charAt(i % 26);
            dueToken(three, words.contains(three));
        }
    }

    private static void threeWithDigits() {
        for (int i = 0; i < NAMES.length(); i++) {
            for (String tail : new String[] {"0", "7", "x", "m", "9"}) {
                for (String head : new String[] {"x1", "m0", "c0", "12", "a1", "no", "or"}) {
                    String three = head + tail + NAMES.charAt(i);
                    boolean number = three.matches("[0-9]{4}");
                    dueToken(three, number);
                }
            }
        }
    }

    private static void words() {
        for (String word : WORDS) {
            dueToken(word, true);
            dueToken(word + "x", false);
            dueToken(word + "0", false);
            dueToken("x" + word, false);
            dueToken("1" + word, false);
            dueToken(word + word, false);
            dueToken(word.toUpperCase(), false);
            dueToken(word.substring(0, 1).toUpperCase() + word.substring(1), false);
            String less = word.substring(0, word.length() - 1);
            dueToken(less, less.equals("no"));
            dueToken(word.substring(1), false);
        }
    }

    private static void variables() {
        for (char c : VARIABLES.toCharArray()) {
            fine("match (" + c + ") give " + c);
            for (int digit = 0; digit < 10; digit++) {
                fine("match (" + c + digit + ") give " + c + digit);
                marked(5, "match (" + c + digit + ") give #" + c);
                marked(5, "match (" + c + ") give #" + c + digit);
                marked(5, "match (" + c + digit + ") give #" + c + (digit + 1) % 10);
            }
            marked(1, "match (#" + c + "00) give 1");
            marked(1, "match (#" + c + "10) give 1");
            marked(1, "match (#" + Character.toUpperCase(c) + ") give 1");
        }
        for (char c : "stijklmnopqrEZ".toCharArray()) {
            marked(1, "match (#" + c + ") give 1");
        }
    }

    private static void marks() {
        for (int m = 0; m < 8; m++) {
            PathQueries g = new PathQueries();
            for (int n = 0; n < 8; n++) {
                g.node(1 << n);
            }
            g.node(255 - (1 << m));
            g.node(255);
            CHECK.dueAnswer(g, "match (x:m" + m + ") give x", m + "; 9");
        }
        marked(1, "match (x:#m8) give x");
        marked(1, "match (x:#m9) give x");
        marked(1, "match (x:#m) give x");
        marked(1, "match (x:#m00) give x");
        marked(1, "match (x:#M0) give x");
        marked(2, "match (x:#c0) give x");
        fine("match (x:m0:m1:m2:m3:m4:m5:m6:m7:m0) give x");
    }

    private static void columns() {
        PathQueries g = new PathQueries();
        g.node(0);
        for (int c = 0; c < 4; c++) {
            g.put(0, c, 9999 - c);
        }
        CHECK.dueAnswer(g, "match (x) give x.c0, x.c1, x.c2, x.c3", "9999 9998 9997 9996");
        marked(1, "match (x) give x.#c4");
        marked(1, "match (x) give x.#c9");
        marked(2, "match (x) give x.#c");
        marked(1, "match (x) give x.#c00");
        marked(1, "match (x) give x.#C0");
        marked(2, "match (x) give x.#m0");
        marked(2, "match (x) give x.#0");
    }

    private static void labels() {
        for (int label = 0; label < 8; label++) {
            PathQueries g = new PathQueries();
            for (int n = 0; n < 9; n++) {
                g.node(0);
            }
            for (int n = 0; n < 8; n++) {
                g.arc(n, n + 1, n, 0);
            }
            CHECK.dueAnswer(g, "match (x)-[" + LABELS.charAt(label) + "]->(y) give x", "" + label);
        }
        for (char c : "ijklmnopqrstEFGHI".toCharArray()) {
            marked(1, "match (x)-[#" + c + "]->(y) give x");
        }
        marked(2, "match (x)-[#x]->(y) give x");
        for (int label = 0; label < 4; label++) {
            PathQueries g = new PathQueries();
            due("12: its number", Check.rule(g, "rule " + "ABCD".charAt(label) + " match (x) give x, x"), label);
            due("12: it stands", g.pairs(label), 0);
            due("12: the only one", g.told(2, 0), 1);
        }
        for (char c : "abcdefgh".toCharArray()) {
            CHECK.dueRuleFault("rule " + c + " match (x) give x, x", 2, 5);
        }
        CHECK.dueRuleFault("rule E match (x) give x, x", 1, 5);
        CHECK.dueRuleFault("rule AA match (x) give x, x", 1, 5);
        CHECK.dueRuleFault("rule A0 match (x) give x, x", 1, 5);
    }

    private static void numbers() {
        PathQueries g = new PathQueries();
        g.node(0);
        CHECK.dueAnswer(g, "match (x) give 0, 9, 10, 99, 100, 999, 1000, 9999", "0 9 10 99 100 999 1000 9999");
        CHECK.dueAnswer(g, "match (x) give 00, 000, 0000, 09, 009, 0009, 0999, 0010", "0 0 0 9 9 9 999 10");
        for (String none : new String[] {"00000", "10000", "00001", "99999", "123456", "0x", "1a", "12b4", "999c", "1m"}) {
            marked(1, "match (x) give #" + none);
        }
        marked(2, "match (x) give 9999 #9");
        marked(2, "match (x) give 1#_");
    }

    private static void blanks() {
        for (char blank : new char[] {9, 10, 13, 32}) {
            fine("match (x:m0) where x = 1 give x, count".replace(' ', blank));
            fine(("" + blank).repeat(3) + "match(x)give" + blank + "x" + ("" + blank).repeat(3));
            CHECK.dueFault("" + blank, 2, 1);
        }
        for (char none : new char[] {0, 1, 8, 11, 12, 14, 28, 31, 33, 127, 128, 160, 255}) {
            CHECK.dueFault("match" + none + "(x) give x", 1, 5);
            CHECK.dueFault(none + "match (x) give x", 1, 0);
            CHECK.dueFault("match (x) give x" + none, 1, 16);
        }
        fine("match(x:m0:m1)-least w[a b|(_)*^c]->()where x=1and no(x)or x<w give-x.c0,w".replace("1and", "1 and"));
        fine(" \t\r\n match \n ( \r x \t : \n m0 ) - [ ^ \n a * ] -> ( ) give x . c0 , - - 1 \n limit \t 1 \r\n");
    }

    private static void blanksAreNeeded() {
        marked(1, "#matchx (x) give x");
        marked(1, "match (x) where x = #1and x = 2 give x");
        marked(1, "match (x) #givex");
        marked(1, "match (x) give x #limit1");
        marked(1, "match (x) give #sumx");
        marked(1, "match (x)-#leastw[a]->(y) give x");
        marked(1, "match (x)-[#ab]->(y) give x");
        marked(1, "match (x) give #xx1");
        fine("match (x)-[a_b^c_]->(y) give x");
        fine("match (x)-[a(b)c]->(y) give x");
        fine("match (x) where not[x=1]and not no(x)or[1=1]give x");
    }

    private static void asLongAsCanBe() {
        marked(2, "match (x) where x#<-1 give x");
        fine("match (x) where x< -1 give x");
        fine("match (x) where x>-1 give x");
        fine("match (x) where x<=-1 give x");
        fine("match (x) where x>=-1 give x");
        fine("match (x) where x!=-1 give x");
        fine("match (x) where x=-1 give x--1---x");
        marked(2, "match (x) where x#->1 give x");
        fine("match (x) where x- -1>1 give x");
        marked(2, "match (x) where x-#->1 give x");
        marked(2, "match (x) where x<#< 1 give x");
        marked(2, "match (x) where x<=#= 1 give x");
        marked(2, "match (x) where x=#= 1 give x");
        marked(2, "match (x) where x=#< 1 give x");
        marked(2, "match (x) where x =#> 1 give x");
        marked(2, "match (x) where x <#> 1 give x");
        marked(2, "match (x) where x !=#= 1 give x");
        marked(2, "match (x)<-[a]#->(y) give x");
        marked(2, "match (x)#<--[a]->(y) give x".replace("#<-", "<-#"));
        marked(2, "match (x)-[a]-#->(y) give x".replace("-#->", "#-->"));
        fine("match (x)<-[a]-(y)-[a]->(z) give x");
    }

    private static void halfSigns() {
        marked(2, "match (x)-[a]#- >(y) give x");
        marked(2, "match (x)#< -[a]-(y) give x");
        marked(1, "match (x) where x #! = 1 give x");
        marked(1, "match (x) where x #!1 give x");
        marked(1, "match (x) where x #!< 1 give x");
        marked(2, "match (x) where x < #= 1 give x");
        marked(2, "match (x) where x > #= 1 give x");
        CHECK.dueFault("match (x) where x !", 1, 18);
        CHECK.dueFault("match (x) where x <", 2, 19);
        CHECK.dueFault("match (x) where x >", 2, 19);
        CHECK.dueFault("match (x) -", 2, 11);
    }

    private static void lastByteOfTheTape() {
        String blanks = " ".repeat(1484);
        fine(blanks + "match (x) give x");
        CHECK.dueFault(blanks + "match (x) give y", 5, 1499);
        CHECK.dueFault(blanks + "match (x) give !", 1, 1499);
        CHECK.dueFault(blanks + "match (x) give  ", 2, 1500);
        CHECK.dueFault(blanks + "match (x) give -", 2, 1500);
        CHECK.dueFault(blanks + "match (x) give=<", 2, 1498);
        CHECK.dueFault("match (x) give x" + blanks, 0, 0);
        CHECK.dueFault("match (x) give  " + blanks, 2, 1500);
        CHECK.dueFault(" ".repeat(1500), 2, 1500);
        CHECK.dueFault("x".repeat(1500), 1, 0);
        CHECK.dueFault("(".repeat(1500), 2, 0);
        CHECK.dueRuleFault(" ".repeat(1474) + "rule A match (x) give x, x", 0, 0);
        CHECK.dueRuleFault(" ".repeat(1474) + "rule A match (x) give x, y", 5, 1499);
    }

    /** What is at fault behind the first one is not met. */
    private static void firstFaultOnly() {
        marked(2, "match #match #match give");
        marked(2, "match (x) give x #x !");
        marked(1, "match (x) give #! x x");
        marked(5, "match (x) give #y, z !");
        CHECK.dueFault("!", 1, 0);
        CHECK.dueFault("0", 2, 0);
        CHECK.dueFault("give x !", 2, 0);
        CHECK.dueRuleFault("", 2, 0);
        CHECK.dueRuleFault("rule", 2, 4);
        CHECK.dueRuleFault("rule A", 2, 6);
        CHECK.dueRuleFault("match (x) give x", 2, 0);
        CHECK.dueFault("rule A match (x) give x, x", 2, 0);
    }
}
