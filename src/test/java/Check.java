/** What the tests of the project share: texts onto the tape, and a count of wrong answers. */
final class Check {
    private int wrong = 0;
    private int made = 0;

    void due(String call, long got, long want) {
        made++;
        if (got != want) {
            wrong++;
            if (wrong <= 40) {
                String told = call.length() > 200 ? call.substring(0, 80) + " .. " + call.substring(call.length() - 100) : call;
                System.out.println(told + " answered " + got + ", due is " + want);
            }
        }
    }

    void due(String what, boolean holds) {
        due(what, holds ? 1 : 0, 1);
    }

    int wrong() {
        return wrong;
    }

    void end(String name) {
        System.out.println(name + ": " + made + " checks, " + wrong + " wrong");
        if (wrong != 0) {
            System.exit(1);
        }
    }

    /** The text comes behind what the tape has; blanks that fill the last call are cut again. */
    static void feed(PathQueries g, String text) {
        for (int i = 0; i < text.length(); i += 20) {
            int[] five = five(text, i);
            g.feed(five[0], five[1], five[2], five[3], five[4]);
        }
        g.cut((20 - text.length() % 20) % 20);
    }

    static int[] five(String text, int from) {
        int[] five = new int[5];
        for (int i = 0; i < 20; i++) {
            int c = from + i < text.length() ? text.charAt(from + i) & 255 : ' ';
            five[i / 4] = five[i / 4] << 8 | c;
        }
        return five;
    }

    static int question(PathQueries g, int q, String text) {
        feed(g, text);
        return g.question(q);
    }

    static int rule(PathQueries g, String text) {
        feed(g, text);
        return g.rule();
    }

    /** All rows of an answer, as "1 2; 3 4". */
    static String answer(PathQueries g, int q) {
        int rows = g.ask(q);
        StringBuilder all = new StringBuilder();
        for (int r = 0; r < rows; r++) {
            all.append(r == 0 ? "" : "; ");
            for (int i = 0; i < 8 && g.answer(q, r, i) != 2000000000; i++) {
                all.append(i == 0 ? "" : " ").append(g.answer(q, r, i));
            }
        }
        return rows < 0 ? "" + rows : all.toString();
    }

    void dueAnswer(PathQueries g, String text, String want) {
        int items = question(g, 3, text);
        String got = items < 0 ? "fault " + items + " at " + g.place() : answer(g, 3);
        made++;
        if (!got.equals(want)) {
            wrong++;
            System.out.println(text + "\n  answered " + got + "\n  due is   " + want);
        }
    }

    /** A question's fault and its place, -2 for none. */
    void dueFault(String text, int fault, int place) {
        PathQueries g = new PathQueries();
        int got = question(g, 0, text);
        due("question " + text, fault == 0 ? Math.min(got, 0) : got, fault == 0 ? 0 : -10 - fault);
        due("place of " + text, g.place(), fault == 0 ? -2 : place);
    }

    void dueRuleFault(String text, int fault, int place) {
        PathQueries g = new PathQueries();
        int got = rule(g, text);
        due("rule " + text, fault == 0 ? Math.min(got, 0) : got, fault == 0 ? 0 : -10 - fault);
        due("place of " + text, g.place(), fault == 0 ? -2 : place);
    }
}
