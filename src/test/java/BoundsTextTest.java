/** Boundary cases of promises 12 to 15 and of the TEXTS in part 2 of 'Terms'. */
public final class BoundsTextTest extends Checks {
    private static final String[] TURNS = {"ahead", "left", "right", "back", "stop"};
    private static final String[] VALUES = {"fl", "fr", "pl", "pr", "thread", "rim", "step", "rest", "swallow"};
    private static final String[] JOINTS = {"when", "or", "and", "not"};
    private static final int BLANKS = 0x20202020;
    /** Products that wrap to -1, -7 and to the least int: there is no other way to a product below 0. */
    private static final String MINUS_ONE = "947*7319*1859";
    private static final String MINUS_SEVEN = "3117*8251*167";
    private static final String LEAST = "8192*8192*32";

    public static void main(String[] args) {
        feedByBytes();
        feedUpTo400();
        feedBeyond400();
        endAtBounds();
        endBeyondBounds();
        endCutsTokens();
        textOfHabits();
        textOfNoHabit();
        textWithFault();
        textBehindFault();
        textOfNothing();
        textOf400Bytes();
        faultOfAnother();
        faultOfTheLatest();
        everyByte();
        words();
        numbers();
        blanks();
        theEnd();
        signsThatCantStand();
        partByZero();
        sixteenLines();
        eightOpen();
        closedAgain();
        firstByPlace();
        leastAtOnePlace();
        intsWrap();
        towardsZero();
        bindingOfSigns();
        firstLineThatIsSo();
        finish();
    }

    /** The place of the FAULT is where ^ stands, which is taken out. */
    private static void fault(int kind, String marked) {
        int place = marked.indexOf('^');
        dueFault(marked.substring(0, place) + marked.substring(place + 1), kind, place);
    }

    private static void feedByBytes() {
        sentence("12: twenty bytes come behind the TAPE, of each number the highest first");
        for (int i = 0; i < 20; i++) {
            int[] five = {BLANKS, BLANKS, BLANKS, BLANKS, BLANKS};
            int shift = 24 - i % 4 * 8;
            five[i / 4] = five[i / 4] & ~(255 << shift) | '?' << shift;
            SwallowSurvey s = new SwallowSurvey();
            due("feed", s.feed(five[0], five[1], five[2], five[3], five[4]), 20);
            due("text(0)", s.text(0), NONE);
            due("the place of byte " + i, s.fault(1), i);
            s.feed(BLANKS, BLANKS, BLANKS, BLANKS, BLANKS);
            due("feed behind", s.feed(five[0], five[1], five[2], five[3], five[4]), 40);
            s.text(0);
            due("the place of byte " + i + " behind twenty", s.fault(1), 20 + i);
        }
        sentence("12: bytes are without sign, and each number's sign goes nowhere else");
        SwallowSurvey s = new SwallowSurvey();
        s.feed(BLANKS, BLANKS, 0x2020ff20, BLANKS, BLANKS);
        s.text(0);
        due("a byte 255", s.fault(1), 10);
        s.feed(BLANKS, 0x80202020, BLANKS, BLANKS, BLANKS);
        s.text(0);
        due("a byte 128", s.fault(1), 4);
        s.feed(BLANKS, BLANKS, BLANKS, BLANKS, -1);
        s.text(0);
        due("four bytes 255", s.fault(1), 16);
        s.feed(0, BLANKS, BLANKS, BLANKS, BLANKS);
        s.text(0);
        due("a byte 0 is no blank", s.fault(0) * 100 + s.fault(1), 100);
    }

    private static void feedUpTo400() {
        sentence("12: how many it has; NONE, and nothing comes, if there would be more than 400");
        SwallowSurvey s = new SwallowSurvey();
        for (int i = 1; i <= 20; i++) {
            due("feed " + i, s.feed(BLANKS, BLANKS, BLANKS, BLANKS, BLANKS), 20 * i);
        }
        due("feed 21", s.feed(-1, -1, -1, -1, -1), NONE);
        due("feed 22", s.feed(-1, -1, -1, -1, -1), NONE);
        due("no byte more", s.end(401), false);
        due("none less", s.end(400), true);
        due("none of them is another", s.text(0), 0);
        due("feed on the empty TAPE", s.feed(0, 0, 0, 0, 0), 20);
    }

    private static void feedBeyond400() {
        sentence("12: more than 400 from each length");
        for (int length = 379; length <= 400; length++) {
            SwallowSurvey s = new SwallowSurvey();
            for (int i = 0; i < 20; i++) {
                s.feed(BLANKS, BLANKS, BLANKS, BLANKS, BLANKS);
            }
            s.end(length);
            boolean can = length + 20 <= 400;
            due("feed behind " + length, s.feed(0x3f3f3f3f, 0, 0, 0, 0), can ? length + 20 : NONE);
            due("no byte more than " + length, s.end(can ? length + 21 : length + 1), false);
            due("text behind " + length, s.text(0), can ? NONE : 0);
            due("fault(1) behind " + length, s.fault(1), can ? length : NONE);
        }
    }

    private static void endAtBounds() {
        sentence("13: the TAPE has its first n bytes alone: true");
        SwallowSurvey s = new SwallowSurvey();
        due("end(0) of an empty TAPE", s.end(0), true);
        tape(s, "left;right;back;stop");
        due("end(20): all of it", s.end(20), true);
        due("text of all", s.text(0), NONE);
        due("the place", s.fault(1), 20);
        tape(s, "left;right;back;stop");
        due("end(16)", s.end(16), true);
        due("text of 16", s.text(0), 3);
        tape(s, "left;right;back;stop");
        due("end(0)", s.end(0), true);
        due("text of 0", s.text(0), 0);
        tape(s, "left;????????????????");
        s.end(5);
        due("feed behind the first n", s.feed(BLANKS, BLANKS, BLANKS, BLANKS, 0x3b202020), 25);
        due("text", s.text(0), NONE);
        due("bytes behind them were gone", s.fault(1), 21);
    }

    private static void endBeyondBounds() {
        sentence("13: false, changing nothing, if it has not so many, or n is below 0");
        SwallowSurvey s = new SwallowSurvey();
        for (int n : new int[] {-1, 1, 20, 400, 401, MIN, MAX}) {
            due("end(" + n + ") of an empty TAPE", s.end(n), false);
        }
        due("feed behind", s.feed(0x6c656674, 0x3b202020, BLANKS, BLANKS, BLANKS), 20);
        for (int n : new int[] {-1, -20, 21, 22, 40, 400, MIN, MAX, MIN + 5, 256 + 5, 65536 + 5}) {
            due("end(" + n + ") of twenty", s.end(n), false);
            due("there are twenty", s.end(20), true);
        }
        due("the bytes are the same", s.text(0), 1);
        for (int i = 0; i < 20; i++) {
            s.feed(BLANKS, BLANKS, BLANKS, BLANKS, BLANKS);
        }
        due("end(401) of 400", s.end(401), false);
        due("end(400) of 400", s.end(400), true);
        due("end(399) of 400", s.end(399), true);
        due("end(400) of 399", s.end(400), false);
    }

    private static void endCutsTokens() {
        sentence("13: its first n bytes alone: what stood behind them is not read");
        int[][] rows = {{3, 0}, {4, 4}, {5, 5}, {7, 5}, {9, 9}, {12, 10}, {16, 10}, {18, 18}, {19, 19}, {20, 20},
            {21, 21}, {22, 22}, {23, 18}, {24, 18}, {30, 18}};
        for (int[] row : rows) {
            SwallowSurvey s = new SwallowSurvey();
            tape(s, "left when swallow=12345;right;");
            s.end(row[0]);
            due("text of " + row[0], s.text(0), NONE);
            due("its place", s.fault(1), row[1]);
        }
        SwallowSurvey s = new SwallowSurvey();
        s.swallow(3, 3, 0, 1, 0);
        tape(s, "back when step=0;right;");
        s.end(17);
        due("a line", s.text(0), 1);
        due("its turn", s.ends(0, 3), 2);
    }

    private static void textOfHabits() {
        sentence("14: the TAPE, empty then, is HABIT k (0 .. 3): how many lines");
        SwallowSurvey s = new SwallowSurvey();
        for (int k = 0; k < 4; k++) {
            due("text(" + k + ")", habit(s, k, "left;".repeat(k + 1)), k + 1);
            due("the TAPE is empty then", s.end(1), false);
            for (int other = 0; other < 4; other++) {
                due("look(" + (10 + other) + ")", s.look(10 + other), other <= k ? other + 1 : 0);
            }
        }
        due("text(2) anew", habit(s, 2, "back;"), 1);
        due("look(12)", s.look(12), 1);
        due("the others stay", s.look(10) * 100 + s.look(11) * 10 + s.look(13), 124);
    }

    private static void textOfNoHabit() {
        sentence("14: NONE: no such one (fault() tells 0)");
        for (int k : beyond(0, 3)) {
            SwallowSurvey s = new SwallowSurvey();
            habit(s, 0, "stop;left;");
            habit(s, 3, "stop;");
            habit(s, 1, "left");
            due("fault(0) ahead", s.fault(0), 1);
            tape(s, "right;");
            due("text(" + k + ")", s.text(k), NONE);
            due("fault(0)", s.fault(0), 0);
            due("fault(1)", s.fault(1), NONE);
            due("no HABIT is another", s.look(10) * 1000 + s.look(11) * 100 + s.look(12) * 10 + s.look(13), 2001);
            due("the TAPE is empty then", s.end(1), false);
            s.swallow(3, 3, 0, 1, 0);
            s.swallow(3, 3, 0, 1, 3);
            due("flights are the same", s.ends(0, 2) + s.ends(1, 2), 0);
        }
        SwallowSurvey s = new SwallowSurvey();
        due("text(4) that has a FAULT", habit(s, 4, "left;?"), NONE);
        due("fault(0) tells 0", s.fault(0), 0);
        due("fault(1)", s.fault(1), NONE);
    }

    private static void textWithFault() {
        sentence("14: NONE: a FAULT (it stays as it was)");
        for (int k = 0; k < 4; k++) {
            SwallowSurvey s = new SwallowSurvey();
            s.swallow(3, 3, 0, 1, k);
            habit(s, k, "left;back;");
            for (String text : new String[] {"right", "right when 1/0=1;", "right;".repeat(17), ";", "right;?"}) {
                due("text(" + k + ")", habit(s, k, text), NONE);
                due("its lines stay", s.look(10 + k), 2);
                due("its turns stay", s.ends(0, 3), 3);
                due("the TAPE is empty then", s.end(1), false);
            }
        }
    }

    private static void textBehindFault() {
        sentence("14: a FAULT leaves nothing to the next TEXT");
        String[] faults = {"left when ((((((((1=1 and (", "left when not not not not not not not not ?",
            "left when (1=1 or not(1=2 and 3+4*5?", "left;".repeat(17), "left when 1=1/0", "left when 1=1 or",
            "left when ((((((((1=1 or 1=1 and 1<2+3*4", "left when 1<2+3*"};
        for (String fault : faults) {
            SwallowSurvey s = new SwallowSurvey();
            s.swallow(3, 3, 0, 1, 0);
            for (int i = 0; i < 6; i++) {
                due("text " + fault, habit(s, 0, fault), NONE);
                due("a line", habit(s, 0, "back when not 1=2;"), 1);
                due("it is so", s.ends(0, 3), 2);
                due("text " + fault, habit(s, 1, fault), NONE);
                due("a line", habit(s, 0, "back when 1=2 or not(1=1 and 2+3*4=14);"), 1);
                due("it is not so", s.ends(0, 3), 0);
                due("text " + fault, habit(s, 2, fault), NONE);
                due("a ) too many", habit(s, 0, "back when 1=1);"), NONE);
                due("its place", s.fault(1), 13);
            }
            due("text " + fault, habit(s, 3, fault), NONE);
            due("eight open", habit(s, 0, "back when ((((((((1=1))))))));"), 1);
            due("it is so", s.ends(0, 3), 2);
            due("text " + fault, habit(s, 3, fault), NONE);
            due("nine open", habit(s, 0, "back when ((((((((("), NONE);
            due("its place", s.fault(0) * 100 + s.fault(1), 318);
        }
    }

    private static void textOfNothing() {
        sentence("14: an empty TAPE is a TEXT without lines");
        SwallowSurvey s = new SwallowSurvey();
        s.swallow(3, 3, 0, 1, 0);
        due("text(0)", s.text(0), 0);
        due("fault(0)", s.fault(0), 0);
        due("fault(1)", s.fault(1), NONE);
        habit(s, 0, "left;");
        due("a line", s.ends(0, 3), 3);
        due("text(0) of nothing", s.text(0), 0);
        due("look(10)", s.look(10), 0);
        due("ahead again", s.ends(0, 3), 0);
        dueLines(" ", 0);
        dueLines("\n", 0);
        dueLines(" \n".repeat(200), 0);
    }

    private static void textOf400Bytes() {
        sentence("14: all 400 bytes are read");
        dueLines(" ".repeat(395) + "left;", 1);
        dueFault(" ".repeat(396) + "left", 1, 400);
        dueFault(" ".repeat(399) + "?", 1, 399);
        dueFault(" ".repeat(398) + "le", 1, 398);
        dueFault(" ".repeat(386) + "left when 1=12", 1, 400);
        dueFault(" ".repeat(385) + "left when 1=\n\n\n", 1, 400);
        dueFault(" ".repeat(395) + "left?", 1, 399);
        String sum = "left when 1" + "+1".repeat(193) + "=1;";
        dueLines(sum, 1);
        due("its length", sum.length(), 400);
        dueLines("left when 1=1" + " or 1=1".repeat(55) + " ;", 1);
        dueLines("left when 1=1" + " and 1=1".repeat(48) + ";", 1);
        dueSo("1" + "+1".repeat(150) + "=151", true);
        dueSo("1=2" + "or 1=2".repeat(50) + "or 2=2", true);
        dueSo("1=1" + "and 1=1".repeat(40) + "and 2=1", false);
    }

    private static void faultOfAnother() {
        sentence("15: NONE for another what");
        SwallowSurvey s = new SwallowSurvey();
        habit(s, 0, "left ?");
        for (int what : beyond(0, 1)) {
            due("fault(" + what + ")", s.fault(what), NONE);
        }
        due("fault(0)", s.fault(0), 1);
        due("fault(1)", s.fault(1), 5);
    }

    private static void faultOfTheLatest() {
        sentence("15: of the latest text(): the FAULT (0 without one), its place (NONE)");
        SwallowSurvey s = new SwallowSurvey();
        String[] texts = {"", "?", "left;", "left when 1/0=1;", " ", "left;".repeat(17), "left;", " left", "left;"};
        int[][] faults = {{0, NONE}, {1, 0}, {0, NONE}, {2, 12}, {0, NONE}, {3, 80}, {0, NONE}, {1, 5}, {0, NONE}};
        for (int i = 0; i < texts.length; i++) {
            habit(s, i % 4, texts[i]);
            due("fault(0) of " + texts[i], s.fault(0), faults[i][0]);
            due("fault(1) of " + texts[i], s.fault(1), faults[i][1]);
            tape(s, "what is fed alone is no text()");
            s.end(3);
            s.survey();
            due("fault(0) stays", s.fault(0), faults[i][0]);
            due("fault(1) stays", s.fault(1), faults[i][1]);
        }
    }

    private static void everyByte() {
        sentence("Terms 2: TOKENS: letters, digits, ; + - * / ( ) < = > and blanks (32, 10); no other byte");
        for (int b = 0; b < 256; b++) {
            String sign = String.valueOf((char) b);
            boolean blank = b == 32 || b == 10;
            boolean letter = b >= 'a' && b <= 'z' || b >= 'A' && b <= 'Z';
            if (blank) {
                dueLines("left" + sign + ";", 1);
                dueLines(sign + "left;" + sign, 1);
            } else if (b == ';') {
                dueLines("left" + sign, 1);
                dueFault(sign, 1, 0);
                dueFault("left" + sign + ";", 1, 5);
            } else {
                dueFault("left" + sign + ";", 1, letter ? 0 : 4);
                dueFault(sign, 1, 0);
                dueFault("left;" + sign, 1, 5);
                dueFault("left " + sign + ";", 1, 5);
            }
            everyByteInACondition(b, sign, blank, letter);
        }
    }

    private static void everyByteInACondition(int b, String sign, boolean blank, boolean letter) {
        boolean digit = b >= '0' && b <= '9';
        boolean compares = b == '<' || b == '=' || b == '>';
        boolean joins = b == '+' || b == '-' || b == '*';
        String text = "left when fl " + sign + " 1;";
        if (compares) {
            dueLines(text, 1);
        } else if (blank) {
            dueFault(text, 1, 15);
        } else if (joins) {
            dueFault(text, 1, 16);
        } else if (b == '/') {
            dueFault(text, 1, 16);
        } else {
            dueFault(text, 1, 13);
        }
        text = "left when 1=1" + sign + "1;";
        if (digit) {
            dueLines(text, 1);
        } else if (joins || b == '/') {
            dueLines(text, 1);
        } else if (b == ';') {
            dueFault(text, 1, 14);
        } else if (blank) {
            dueFault(text, 1, 14);
        } else {
            dueFault(text, 1, 13);
        }
        if (letter) {
            dueFault("left when " + sign + "=1;", 1, 10);
        }
    }

    private static void words() {
        sentence("Terms 2: letters as many as stand together are KEYWORDS (those told here) or none");
        for (String turn : TURNS) {
            dueLines(turn + ";", 1);
            dueFault(turn, 1, turn.length());
            dueNoWord(turn, "", ";");
            dueFault("left when " + turn + "=1;", 1, 10);
            dueFault("left when 1=" + turn + ";", 1, 12);
        }
        for (String value : VALUES) {
            dueLines("left when " + value + "=1;", 1);
            dueLines("left when 1=" + value + ";", 1);
            dueLines("left when 1<2*" + value + ";", 1);
            dueNoWord(value, "left when ", "=1;");
            dueFault(value + ";", 1, 0);
            dueFault("left " + value + "=1;", 1, 5);
            dueFault("left when 2/" + value + "=1;", 1, 12);
        }
        for (String joint : JOINTS) {
            dueFault(joint + ";", 1, 0);
            dueFault("left when 1=" + joint + ";", 1, 12);
        }
        dueNoWord("when", "left ", " 1=1;");
        dueNoWord("or", "left when 1=1 ", " 1=1;");
        dueNoWord("and", "left when 1=1 ", " 1=1;");
        dueNoWord("not", "left when ", " 1=1;");
        sentence("Terms 2: letters and digits need no blank between");
        dueLines("left when 1=1or 2=2and 3=3;", 1);
        dueLines("left when 1=fl or 2=fr and not pl=3;", 1);
        dueLines("left when1=1;", 1);
        fault(1, "left when 1=fl^2;");
        fault(1, "^leftwhen 1=1;");
    }

    /** Not the word when a letter is missing, one too many, or a great one. */
    private static void dueNoWord(String word, String ahead, String behind) {
        String[] none = {word.substring(1), word.substring(0, word.length() - 1), word + "s", "x" + word, word + word,
            Character.toUpperCase(word.charAt(0)) + word.substring(1), word.toUpperCase()};
        for (String other : none) {
            dueFault(ahead + other + behind, 1, ahead.length());
        }
    }

    private static void numbers() {
        sentence("Terms 2: digits as many as stand together NUMBERS of 1 to 4 digits or none");
        for (String number : new String[] {"0", "9", "00", "10", "99", "000", "100", "999", "0000", "0001", "1000",
            "9999"}) {
            dueLines("left when " + number + "=" + number + ";", 1);
            dueSo(number + "=" + Integer.parseInt(number), true);
            dueSo("step+" + number + "+0=" + Integer.parseInt(number), true);
        }
        for (String number : new String[] {"00000", "00001", "10000", "12345", "99999", "000000", "4294967297",
            "9".repeat(100)}) {
            fault(1, "left when ^" + number + "=1;");
            fault(1, "left when 1=^" + number + ";");
            fault(1, "left when 1=1+^" + number + ";");
            fault(1, "left when 1=1*^" + number + ";");
            fault(1, "left when 1=1/^" + number + ";");
            fault(1, "left ^" + number);
        }
        dueSo("9999=9998+1", true);
        dueSo("1000>999", true);
        fault(1, "left when 1234 ^5=1;");
        dueLines("left when 1=9999/9999;", 1);
    }

    private static void blanks() {
        sentence("Terms 2: blanks (32, 10) between");
        dueLines("\n left \n when\n1 =\n1 + 2\n- 3 * 4 / 5 or ( not fl < fr ) ;\n", 1);
        dueLines("left when(not(fl<fr))and(1=1);", 1);
        dueLines("left when 1=1;right;", 2);
        fault(1, "^le ft;");
        fault(1, "left when 1 ^2=3;");
        for (char sign : new char[] {9, 11, 12, 13, 31, 127, 133, 160, 0, 255}) {
            fault(1, "left^" + sign + ";");
            fault(1, "left when 1^" + sign + "=1;");
        }
    }

    private static void theEnd() {
        sentence("15: FAULT 1 at the end: the text's length");
        String[] tokens = {"left", "when", "not", "(", "fl", "+", "12", "*", "2", "/", "3", "<", "fr", ")", "and", "pl",
            "=", "1", "or", "swallow", ">", "0", "-", "rest", ";"};
        StringBuilder text = new StringBuilder();
        for (String token : tokens) {
            int start = text.length();
            text.append(token);
            if (!token.equals(";")) {
                dueFault(text.toString(), 1, text.length());
                dueFault(text + " ", 1, text.length() + 1);
                dueFault(text + "\n \n", 1, text.length() + 3);
                for (int n = start + 1; n < text.length() && Character.isLetter(token.charAt(0)); n++) {
                    dueFault(text.substring(0, n), 1, start);
                }
            }
            text.append(' ');
        }
        dueLines(text.toString(), 1);
        dueFault("left;right", 1, 10);
        dueFault("left;right \n", 1, 12);
    }

    private static void signsThatCantStand() {
        sentence("15: FAULT 1: what can't stand there");
        String[] all = {"^;", "^when", "^(", "^1", "^fl;", "^not", "left ^left;", "left ^(1=1);", "left ^not 1=1;",
            "left ^1=1;", "left;^;", "left;^when 1=1;", "left when ^;", "left when ^when 1=1;", "left when ^left;",
            "left when ^or 1=1;", "left when ^and 1=1;", "left when ^)", "left when ^+1=1;", "left when ^-1=1;",
            "left when ^*1=1;", "left when ^/1=1;", "left when ^=1;", "left when ^<1;", "left when ^>1;",
            "left when 1^;", "left when 1 ^1=1;", "left when 1 ^fl=1;", "left when 1^(", "left when 1^)",
            "left when 1 ^or 1=1;", "left when 1 ^and 1=1;", "left when 1 ^not 1=1;", "left when 1 ^when",
            "left when 1=^;", "left when 1=^=1;", "left when 1<^=1;", "left when 1=^(1);", "left when 1=^not 1=1;",
            "left when 1=^)", "left when 1=^-1;", "left when 1=1^=1;", "left when 1<1^<1;", "left when 1>2^>3;",
            "left when 1=1^(", "left when 1=1^)", "left when 1=1 ^not", "left when 1=1 ^when", "left when 1=1 ^left",
            "left when 1=1 ^fl", "left when 1=1 ^1", "left when 1=1 or ^;", "left when 1=1 or ^or 1=1;",
            "left when 1=1 or ^and 1=1;", "left when 1=1 and ^;", "left when 1=1 and ^)", "left when not ^;",
            "left when not ^or", "left when not ^and", "left when not ^)", "left when not ^when",
            "left when (^;", "left when (^)", "left when (1^)=1;", "left when (1+1^)=1;", "left when (1=1^;",
            "left when (1=1)^1", "left when (1=1) ^fl", "left when (1=1)^=1", "left when (1=1)^+1",
            "left when (1=1)^*1", "left when (1=1)^/1", "left when (1=1)^<1", "left when (1=1)^)",
            "left when (1=1)^(", "left when (1=1) ^not 1=1;", "left when (1=1) ^when", "left when (1=1) ^left;",
            "left when ((1=1)^;", "left when not (1=1)^)", "left when 1+^+1=1;", "left when 1-^-1=1;",
            "left when 1*^*1=1;", "left when 1/^/1=1;", "left when 1*^/1=1;", "left when 1/^*1=1;",
            "left when 1+^;", "left when 1*^(1)=1;", "left when 1/^fl=1;", "left when 1/^(1)=1;",
            "left when 1/^-1=1;", "left when 1/^;", "left when 1/^not", "left when 1=1/^)"};
        for (String marked : all) {
            fault(1, marked);
        }
    }

    private static void partByZero() {
        sentence("15: FAULT 2 (at the NUMBER) a part by 0");
        for (String zero : new String[] {"0", "00", "000", "0000"}) {
            fault(2, "left when 1/^" + zero + "=1;");
            fault(2, "left when 1=1/^" + zero + ";");
            fault(2, "left when 1=fl*2/3/^" + zero + ";");
            fault(2, "left when 1=fl/\n ^" + zero + " + 1;");
            fault(2, "left;left when not(1=1 or 2<fl/^" + zero + ");");
        }
        for (String one : new String[] {"1", "01", "001", "0001", "10", "1000", "9999"}) {
            dueLines("left when 1/" + one + "=1;", 1);
        }
        dueLines("left when 0*0=0/1;", 1);
        dueLines("left when 1*0=0-0;", 1);
        dueLines("left when 0/1*0=0;", 1);
    }

    private static void sixteenLines() {
        sentence("15: FAULT 3 (at its KEYWORD) the 17th line");
        for (int lines = 0; lines <= 16; lines++) {
            dueLines("left;".repeat(lines), lines);
            dueLines("stop when 1=2;".repeat(lines), lines);
        }
        for (String turn : TURNS) {
            fault(3, "left;".repeat(16) + "^" + turn + ";");
            fault(3, "left;".repeat(16) + " \n^" + turn + ";");
            fault(3, "back when 1=2;".repeat(16) + "^" + turn);
        }
        fault(3, "left;".repeat(16) + "^left;" + "left;".repeat(9));
        fault(3, "left;".repeat(16) + "^left when 1/0=1;");
        fault(3, "left;".repeat(16) + "^left left");
        dueLines("left;".repeat(16) + " \n", 16);
        sentence("14: a FAULT of one TEXT doesn't count in the next");
        SwallowSurvey s = new SwallowSurvey();
        habit(s, 0, "left;".repeat(17));
        due("16 lines behind it", habit(s, 0, "left;".repeat(16)), 16);
        due("16 lines again", habit(s, 1, "left;".repeat(16)), 16);
        SwallowSurvey last = withHabit("left when 1=2;".repeat(15) + "back;");
        last.swallow(3, 3, 0, 1, 0);
        due("the 16th line is flown by", last.ends(0, 3), 2);
    }

    private static void eightOpen() {
        sentence("15: FAULT 3 (at it) the 9th ( or not that is open");
        for (int open = 1; open <= 8; open++) {
            dueLines("left when " + "(".repeat(open) + "1=1" + ")".repeat(open) + ";", 1);
            dueLines("left when " + "not ".repeat(open) + "1=1;", 1);
            dueSo("not ".repeat(open) + "1=1", open % 2 == 0);
            dueSo("(".repeat(open) + "1=1" + ")".repeat(open), true);
        }
        fault(3, "left when " + "(".repeat(8) + "^(1=1");
        fault(3, "left when " + "not ".repeat(8) + "^not 1=1");
        fault(3, "left when " + "(".repeat(8) + " ^not 1=1");
        fault(3, "left when " + "not ".repeat(8) + "^(1=1");
        fault(3, "left when " + "(".repeat(8) + "^((((((((");
        for (int mask = 0; mask < 256; mask++) {
            StringBuilder eight = new StringBuilder();
            int closes = 0;
            for (int i = 0; i < 8; i++) {
                boolean isNot = (mask >> i & 1) != 0;
                eight.append(isNot ? "not " : "(");
                closes += isNot ? 0 : 1;
            }
            dueLines("left when " + eight + "1=1" + ")".repeat(closes) + ";", 1);
            fault(3, "left when " + eight + "^not 1=1");
            fault(3, "left when " + eight + "^(1=1");
        }
        fault(3, "left when 1=1 or 1=1 and " + "(1=2 or 1=1 and ".repeat(8) + "^(");
        dueSo("1=2 or 1=1 and " + "(1=2 or 1=1 and ".repeat(8) + "2+3*4=14" + ")".repeat(8), true);
        dueSo("1=2 or 1=1 and " + "(1=2 or 1=1 and ".repeat(8) + "2+3*4=20" + ")".repeat(8), false);
        dueSo("1=2 or 1=1 and " + "not(1=2 or 1=1 and ".repeat(4) + "2+3*4=14" + ")".repeat(4), true);
    }

    private static void closedAgain() {
        sentence("15: what is closed is not open: ) closes a (, and a not ends with its C");
        dueLines("left when " + "(1=1)and".repeat(20) + "(1=1);", 1);
        dueLines("left when " + "not 1=1 or ".repeat(20) + "not 1=1;", 1);
        dueLines("left when " + "not(1=1)and ".repeat(20) + "not(1=1);", 1);
        dueLines("left when ((((((((1=1)))))))) or ((((((((1=1))))))));", 1);
        dueLines("left when (((((((not 1=1 or not 1=1 and not 1=1)))))));", 1);
        dueLines("left when ((((((((1=1)or(1=1))and(1=1))or(1=1))and(1=1)))));", 1);
        dueLines("left when not not not not not not not not 1=1 and not not not not not not not not 1=1;", 1);
        dueLines("left when ((((((((1=1))))))));right when ((((((((1=1))))))));", 2);
        dueLines("left when not not not not not not not not 1=1;".repeat(3), 3);
        fault(3, "left when ((((((((1=1)))))))) or ((((((((^(1=1");
        fault(3, "left when (1=1)and((((((((^(1=1");
        fault(3, "left when (((((((1=1 and (1=1) or (^(1=1");
        fault(3, "left when (((((((not 1=1 or not ^not 1=1");
        fault(3, "left when not 1=1 or not not not not not not not not ^not 1=1");
        fault(3, "left when not (not 1=1 or not not not not not not ^(");
        fault(3, "left;right when not 1=1;back when ((((((((^not 1=1");
        fault(3, "left when (((((((not ^(1=1))))))));");
        dueLines("left when ((((((not(1=1)or not(1=1)))))));", 1);
    }

    private static void firstByPlace() {
        sentence("15: FAULTS, the first by its place");
        fault(1, "left ^? when 1/0=1;");
        fault(1, "^? left when 1/0=1;" + "left;".repeat(17));
        fault(2, "left when 1/^0=1 ? ;");
        fault(2, "left when 1/^0=1;" + "left;".repeat(17));
        fault(2, "left when 1/^0=(((((((((");
        fault(3, "left when ((((((((^(1/0=1 ?");
        fault(3, "left;".repeat(16) + "^left when ?");
        fault(1, "left;".repeat(15) + "left ^left;left;");
        fault(1, "left when ((((((((1=1^(");
        fault(2, "left when ((((((((1/^0=1(");
        fault(1, "left when 1/^x");
        fault(1, "left when 1=^12345/0;");
        fault(2, "left when 1=1/^0/0;");
        fault(1, "left^");
        fault(1, "left when 1=1 ^? ?");
    }

    private static void leastAtOnePlace() {
        sentence("15: FAULTS at one place the least");
        fault(1, "left;".repeat(16) + "^;");
        fault(1, "left;".repeat(16) + "^when;");
        fault(1, "left;".repeat(16) + "^lef;");
        fault(1, "left;".repeat(16) + "^?");
        fault(1, "left;".repeat(16) + "^12");
        fault(1, "left when ((((((((1^(");
        fault(1, "left when ((((((((1=^(");
        fault(1, "left when ((((((((1+^(");
        fault(1, "left when ((((((((1=1 ^not");
        fault(1, "left when ((((((((1 ^not");
        fault(1, "left when ((((((((1/^(");
        fault(1, "left when ((((((((1/^not");
        fault(1, "left when not not not not not not not not 1=1^(");
        fault(1, "left when not not not not not not not not 1=1 ^not");
        fault(1, "left when 1/^00000=1;");
        fault(1, "left when ((((((((^nott 1=1");
        fault(1, "left when 1=1 ^0;");
    }

    private static void intsWrap() {
        sentence("Terms 2: ints, which wrap");
        dueSo(LEAST + "<0", true);
        dueSo(LEAST + "-1>0", true);
        dueSo(LEAST + "-1+1<0", true);
        dueSo(LEAST + "-1=2147*1000*1000+483*1000+647", true);
        dueSo(LEAST + "=0-2147*1000*1000-483*1000-648", true);
        dueSo(LEAST + "+" + LEAST + "=0", true);
        dueSo(LEAST + "*2=0", true);
        dueSo("0-" + LEAST + "<0", true);
        dueSo("0-" + LEAST + "=" + LEAST, true);
        dueSo("8192*8192*64=0", true);
        dueSo("8192*8192*31>0", true);
        dueSo("9999*9999*22<0", true);
        dueSo("9999*9999*21>0", true);
        dueSo("9999*9999*43>0", true);
        dueSo(MINUS_ONE + "=0-1", true);
        dueSo(MINUS_ONE + "+1=0", true);
        dueSo(MINUS_ONE + "*9999=0-9999", true);
        dueSo(MINUS_SEVEN + "=0-7", true);
        sentence("Terms 2: comparisons are of ints, not of a difference that wraps");
        dueSo(LEAST + "<1", true);
        dueSo("1>" + LEAST, true);
        dueSo("1<" + LEAST, false);
        dueSo(LEAST + ">1", false);
        dueSo(LEAST + "-1>0-2", true);
        dueSo("0-2<" + LEAST + "-1", true);
        dueSo(LEAST + "=" + LEAST, true);
        dueSo(LEAST + "<" + LEAST + "+1", true);
        dueSo(LEAST + "-1>" + LEAST, true);
    }

    private static void towardsZero() {
        sentence("Terms 2: / goes towards 0");
        int[][] parts = {{1, 7}, {2, 3}, {3, 2}, {4, 1}, {6, 1}, {7, 1}, {8, 0}, {9999, 0}};
        for (int[] part : parts) {
            dueSo("7/" + part[0] + "=" + part[1], true);
            dueSo(MINUS_SEVEN + "/" + part[0] + "=0-" + part[1], true);
            dueSo(MINUS_SEVEN + "/" + part[0] + "*1+" + part[1] + "=0", true);
        }
        dueSo(MINUS_ONE + "/2=0", true);
        dueSo(MINUS_ONE + "/1=0-1", true);
        dueSo("1/2=0", true);
        dueSo("0/9999=0", true);
        dueSo(LEAST + "/1=" + LEAST, true);
        dueSo(LEAST + "/3=0-9999*9999*7-9999*1596-9471", true);
        dueSo(LEAST + "/9999<0", true);
    }

    private static void bindingOfSigns() {
        sentence("Terms 2: E (< | = | >) E");
        for (int a = 1; a <= 3; a++) {
            dueSo(a + "<2", a < 2);
            dueSo(a + "=2", a == 2);
            dueSo(a + ">2", a > 2);
            dueSo("not " + a + "<2", a >= 2);
            dueSo("not " + a + "=2", a != 2);
            dueSo("not " + a + ">2", a <= 2);
            for (int b = 0; b <= 3; b++) {
                dueSo(a + "<1+" + b, a < 1 + b);
                dueSo(a + "=1+" + b, a == 1 + b);
                dueSo(a + ">1+" + b, a > 1 + b);
                dueSo(a + "<3-" + b, a < 3 - b);
                dueSo(a + "=3-" + b, a == 3 - b);
                dueSo(a + ">3-" + b, a > 3 - b);
                dueSo(a + "=1*" + b, a == b);
                dueSo(a + "+" + b + "=3", a + b == 3);
                dueSo(a + "-" + b + "=1", a - b == 1);
                dueSo(a + "*" + b + "=2", a * b == 2);
            }
        }
        sentence("Terms 2: B = A {or A}, A = C {and C}, E = T {(+ | -) T}, T = U {* U | / NUMBER}");
        for (int i = 0; i < 8; i++) {
            String a = "1=" + (i & 1);
            String b = "1=" + (i >> 1 & 1);
            String c = "1=" + (i >> 2 & 1);
            boolean isA = (i & 1) != 0;
            boolean isB = (i & 2) != 0;
            boolean isC = (i & 4) != 0;
            dueSo(a + " or " + b + " and " + c, isA || isB && isC);
            dueSo(a + " and " + b + " or " + c, isA && isB || isC);
            dueSo("(" + a + " or " + b + ")and " + c, (isA || isB) && isC);
            dueSo(a + " and (" + b + " or " + c + ")", isA && (isB || isC));
            dueSo("not " + a + " or " + b + " and not " + c, !isA || isB && !isC);
            dueSo("not(" + a + " or " + b + ")and not " + c, !(isA || isB) && !isC);
            dueSo("not not " + a + " and not(not " + b + " and " + c + ")", isA && !(!isB && isC));
            dueSo(a + " or " + b + " or " + c, isA || isB || isC);
            dueSo(a + " and " + b + " and " + c, isA && isB && isC);
        }
        dueSo("1=1 or 1=1 and 1=2", true);
        dueSo("1=2 and 1=1 or 1=1", true);
        dueSo("(1=1 or 1=1) and 1=2", false);
        dueSo("not 1=1 or 1=1", true);
        dueSo("not (1=1 or 1=1)", false);
        dueSo("not 1=2 and 1=2", false);
        dueSo("not (1=2 and 1=2)", true);
        dueSo("8-4-2=2", true);
        dueSo("8-4+2=6", true);
        dueSo("2+3*4=14", true);
        dueSo("2*3+4=10", true);
        dueSo("20-12/4=17", true);
        dueSo("100/5/2=10", true);
        dueSo("100/5*2=40", true);
        dueSo("7*3/2=10", true);
        dueSo("7/2*3=9", true);
        dueSo("2+7/2*3-1=10", true);
        dueSo("14=2+3*4", true);
        dueSo("9-2*3/4+1<20-3*3", true);
        dueSo("9-2*3/4+1=9", true);
    }

    private static void firstLineThatIsSo() {
        sentence("Terms 2: the first line whose B is so, or that has none (none: ahead)");
        String[] texts = {"", "left when 1=2;", "left when 1=2;right;", "left;right;", "left when 1=1;right;",
            "left when 1=2;right when 1=1;back;", "back;left when 1=1;", "ahead;left;", "ahead when 1=1;left;",
            "left when 1=2;right when 1=2;", "stop when 1=2;"};
        int[] headings = {0, 0, 1, 3, 3, 1, 2, 0, 0, 0, 0};
        for (int i = 0; i < texts.length; i++) {
            SwallowSurvey s = withHabit(texts[i]);
            s.swallow(3, 3, 0, 1, 0);
            due("HEADING by " + texts[i], s.ends(0, 3), headings[i]);
            due("STEPS by " + texts[i], s.ends(0, 2), 1);
        }
    }
}
