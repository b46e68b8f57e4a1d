/** What the tests by hand share: checks that are counted, TEXTS for the TAPE, numbers beyond bounds. */
class Checks {
    static final int NONE = SwallowSurvey.NONE;
    static final int MIN = Integer.MIN_VALUE;
    static final int MAX = Integer.MAX_VALUE;
    private static int wrong = 0;
    private static int checks = 0;
    private static String sentence = "";

    /** What of the document the checks that follow look at. */
    static void sentence(String words) {
        sentence = words;
    }

    static void due(String what, long got, long want) {
        checks++;
        if (got != want) {
            wrong++;
            System.out.println(sentence + ": " + what + " answered " + got + ", due is " + want);
        }
    }

    static void due(String what, boolean got, boolean want) {
        due(what, got ? 1 : 0, want ? 1 : 0);
    }

    /** To be called last: exit code 1 if a check was wrong. */
    static void finish() {
        System.out.println(checks + " checks, " + wrong + " wrong");
        if (wrong != 0) {
            System.exit(1);
        }
    }

    /** One beyond a bound on each side, then what masks and sums could take for good, then as far as ints go. */
    static int[] beyond(int least, int most) {
        return new int[] {least - 1, most + 1, least - 2, most + 2, least + (1 << 8), least + (1 << 16), MIN + least,
            MIN, MAX};
    }

    /** Puts a text on the TAPE, which is emptied first. */
    static void tape(SwallowSurvey s, String text) {
        s.end(0);
        StringBuilder padded = new StringBuilder(text);
        while (padded.length() % 20 != 0) {
            padded.append(' ');
        }
        for (int i = 0; i < padded.length(); i += 20) {
            s.feed(four(padded, i), four(padded, i + 4), four(padded, i + 8), four(padded, i + 12),
                    four(padded, i + 16));
        }
        s.end(text.length());
    }

    private static int four(CharSequence text, int at) {
        int number = 0;
        for (int i = at; i < at + 4; i++) {
            number = number << 8 | text.charAt(i) & 255;
        }
        return number;
    }

    static int habit(SwallowSurvey s, int k, String text) {
        tape(s, text);
        return s.text(k);
    }

    static SwallowSurvey withHabit(String text) {
        SwallowSurvey s = new SwallowSurvey();
        due("text " + text, habit(s, 0, text) != NONE, true);
        return s;
    }

    static SwallowSurvey onLand(int w, int h) {
        SwallowSurvey s = new SwallowSurvey();
        due("land(" + w + ", " + h + ")", s.land(w, h), true);
        return s;
    }

    static void dueFault(String text, int kind, int place) {
        SwallowSurvey s = new SwallowSurvey();
        due("text " + text, habit(s, 0, text), NONE);
        due("fault(0) of " + text, s.fault(0), kind);
        due("fault(1) of " + text, s.fault(1), place);
    }

    static void dueLines(String text, int lines) {
        SwallowSurvey s = new SwallowSurvey();
        due("text " + text, habit(s, 0, text), lines);
        due("fault(0) of " + text, s.fault(0), 0);
        due("fault(1) of " + text, s.fault(1), NONE);
        due("look(10) of " + text, s.look(10), lines);
    }

    static void dueEnd(SwallowSurvey s, int swallow, int x, int y, int steps, int heading) {
        due("ends(" + swallow + ", 0)", s.ends(swallow, 0), x);
        due("ends(" + swallow + ", 1)", s.ends(swallow, 1), y);
        due("ends(" + swallow + ", 2)", s.ends(swallow, 2), steps);
        due("ends(" + swallow + ", 3)", s.ends(swallow, 3), heading);
    }

    /** Whether a condition is so for a swallow in the middle of a land without anything. */
    static void dueSo(String when, boolean so) {
        SwallowSurvey s = withHabit("back when " + when + ";");
        s.swallow(3, 3, 0, 1, 0);
        due(when, s.ends(0, 3) == 2, so);
    }

    static void duePlan(SwallowSurvey s, int a, int b, int price, int count, int one, int other) {
        due("plan(" + a + ", " + b + ", 0)", s.plan(a, b, 0), price);
        due("plan(" + a + ", " + b + ", 1)", s.plan(a, b, 1), count);
        due("plan(" + a + ", " + b + ", 2)", s.plan(a, b, 2), one);
        due("plan(" + a + ", " + b + ", 3)", s.plan(a, b, 3), other);
    }

    static void dueBack(SwallowSurvey s, int count, int common, int least) {
        due("back(0)", s.back(0), count);
        due("back(1)", s.back(1), common);
        due("back(2)", s.back(2), least);
    }
}
