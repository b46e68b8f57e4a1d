/** For each promise: ordinary inputs, the edges that the document names, and wrong inputs. */
public final class PromisesTest extends Checks {
    public static void main(String[] args) {
        promise1();
        promise2();
        promise3();
        promise4();
        promise5to7();
        promise8();
        promise9();
        promise10();
        promise11();
        promise12and13();
        promise14();
        promise15();
        promise16();
        promise16Suits();
        promise16Values();
        promise16Signs();
        promise17();
        promise18();
        promise19();
        promise20();
        promise21();
        promise22();
        promise23();
        promise24();
        promise25();
        promise26();
        promise27();
        promise28();
        promise29();
        promise30();
        finish();
    }

    private static void promise1() {
        sentence("promise 1");
        SwallowSurvey s = new SwallowSurvey();
        int[] first = {6, 6, 0, 0, 0, 0, 1, 0, 0, 0, 0, 0, 0, 0};
        for (int what = 0; what < first.length; what++) {
            due("look(" + what + ")", s.look(what), first[what]);
        }
        due("look(20)", s.look(20), 0);
        due("look(21)", s.look(21), 0);
        due("image(false)", s.image(false), false);
        due("undo()", s.undo(), false);
        due("fault(0)", s.fault(0), 0);
        due("fault(1)", s.fault(1), NONE);
        due("ends(0, 0)", s.ends(0, 0), NONE);
        due("NONE", NONE, -1);
        for (int cell = 0; cell < 100; cell++) {
            due("of(" + cell + ", 8)", s.of(cell, 8), cell % 10 < 6 && cell / 10 < 6 ? 1 : NONE);
        }
    }

    private static void promise2() {
        sentence("promise 2");
        SwallowSurvey s = new SwallowSurvey();
        due("state(5)", s.state(5), 0);
        due("state(-7)", s.state(-7), 5);
        due("look(2)", s.look(2), -7);
        due("state(MIN)", s.state(MIN), -7);
        due("state(0)", s.state(0), MIN);
    }

    private static void promise3() {
        sentence("promise 3");
        SwallowSurvey s = busy();
        due("land(1, 2)", s.land(1, 2), false);
        due("land(2, 1)", s.land(2, 1), false);
        due("land(11, 2)", s.land(11, 2), false);
        due("land(2, 11)", s.land(2, 11), false);
        due("land(MIN, 5)", s.land(MIN, 5), false);
        due("land(5, MAX)", s.land(5, MAX), false);
        due("look(4) stays", s.look(4), 2);
        due("look(9) stays", s.look(9), 1);
        tape(s, "left when x");
        s.text(1);
        s.feed(0, 0, 0, 0, 0);
        s.image(true);
        due("land(6, 6)", s.land(6, 6), true);
        int[] first = {6, 6, 77, 0, 0, 0, 1, 0, 0, 0, 0, 0, 0, 0};
        for (int what = 0; what < first.length; what++) {
            due("look(" + what + ") anew", s.look(what), first[what]);
        }
        due("look(20) anew", s.look(20), 0);
        due("look(21) anew", s.look(21), 0);
        for (int what = 0; what < 9; what++) {
            due("of(22, " + what + ") anew", s.of(22, what), what == 5 ? 0 : what == 6 ? 36 : what == 8 ? 1 : 0);
        }
        due("fault stays", s.fault(0), 1);
        due("the TAPE stays", s.feed(0, 0, 0, 0, 0), 40);
        s.swallow(0, 0, 1, 2, 0);
        habit(s, 0, "right;");
        // A MIRROR at (0, 0) would have sent it off the land.
        dueEnd(s, 0, 0, 1, 1, 3);
        due("THE IMAGE stays", s.image(false), true);
        due("look(4) of the image", s.look(4), 2);
        due("land(10, 2)", s.land(10, 2), true);
        due("of(19, 6)", s.of(19, 6), 20);
        due("of(20, 6)", s.of(20, 6), NONE);
        due("land(2, 10)", s.land(2, 10), true);
        due("of(91, 6)", s.of(91, 6), 20);
        due("of(92, 6)", s.of(92, 6), NONE);
    }

    /** One of everything. */
    private static SwallowSurvey busy() {
        SwallowSurvey s = new SwallowSurvey();
        s.state(77);
        habit(s, 0, "left when fl>40;");
        s.swallow(3, 0, 2, 6, 0);
        s.swallow(0, 3, 1, 6, 1);
        s.tell(22, 0, 9);
        s.tell(22, 1, 8);
        s.tell(22, 2, 1);
        s.barn(22);
        s.mirror(0, 0, true);
        s.nest(1, 1);
        s.hatch(22, 5, 5);
        s.claim(0, 5, true);
        s.survey();
        s.dig(22);
        return s;
    }

    private static void promise4() {
        sentence("promise 4");
        SwallowSurvey s = new SwallowSurvey();
        due("tell(0, 0, 99)", s.tell(0, 0, 99), true);
        due("of(0, 0)", s.of(0, 0), 99);
        due("tell(0, 0, 100)", s.tell(0, 0, 100), false);
        due("tell(0, 0, -1)", s.tell(0, 0, -1), false);
        due("of(0, 0) stays", s.of(0, 0), 99);
        due("tell(0, 0, 0)", s.tell(0, 0, 0), true);
        due("of(0, 0)", s.of(0, 0), 0);
        due("tell(55, 1, 99)", s.tell(55, 1, 99), true);
        due("tell(55, 1, 100)", s.tell(55, 1, 100), false);
        due("tell(55, 1, -1)", s.tell(55, 1, -1), false);
        due("of(55, 8)", s.of(55, 8), 99);
        due("tell(55, 1, 0)", s.tell(55, 1, 0), true);
        due("of(55, 8)", s.of(55, 8), 0);
        due("tell(34, 2, 1)", s.tell(34, 2, 1), true);
        due("tell(34, 2, 2)", s.tell(34, 2, 2), false);
        due("tell(34, 2, -1)", s.tell(34, 2, -1), false);
        due("of(34, 4)", s.of(34, 4), 1);
        due("tell(34, 2, 0)", s.tell(34, 2, 0), true);
        due("of(34, 4)", s.of(34, 4), 0);
        for (int cell : new int[] {6, 16, 60, 99, 100, -1, -5, MIN, MAX}) {
            due("tell(" + cell + ", 0, 1)", s.tell(cell, 0, 1), false);
        }
        for (int what : new int[] {3, -1, MIN, MAX}) {
            due("tell(0, " + what + ", 1)", s.tell(0, what, 1), false);
        }
        s.land(10, 10);
        due("tell(99, 0, 7)", s.tell(99, 0, 7), true);
        due("of(99, 0)", s.of(99, 0), 7);
        due("tell(100, 0, 7)", s.tell(100, 0, 7), false);
    }

    private static void promise5to7() {
        sentence("promise 5");
        SwallowSurvey s = new SwallowSurvey();
        due("dig(0)", s.dig(0), true);
        due("dig(0) again", s.dig(0), false);
        due("of(0, 2)", s.of(0, 2), 1);
        for (int cell : new int[] {6, 60, 100, -1, MIN, MAX}) {
            due("dig(" + cell + ")", s.dig(cell), false);
            due("fill(" + cell + ")", s.fill(cell), false);
        }
        due("look(9)", s.look(9), 1);
        sentence("promise 6");
        due("fill(1)", s.fill(1), false);
        due("fill(0)", s.fill(0), true);
        due("of(0, 2)", s.of(0, 2), 0);
        due("fill(0) again", s.fill(0), false);
        due("look(9)", s.look(9), 2);
        sentence("promise 7");
        due("undo() of fill", s.undo(), true);
        due("of(0, 2)", s.of(0, 2), 1);
        due("undo() of dig", s.undo(), true);
        due("of(0, 2)", s.of(0, 2), 0);
        due("undo() of nothing", s.undo(), false);
        for (int cell = 0; cell < 6; cell++) {
            s.dig(cell);
            s.dig(cell + 10);
        }
        due("look(9) at most", s.look(9), 10);
        for (int i = 0; i < 10; i++) {
            due("undo() " + i, s.undo(), true);
        }
        due("the 11th undo()", s.undo(), false);
        for (int cell = 0; cell < 16; cell++) {
            if (cell % 10 < 6) {
                due("the two oldest stay dug: " + cell, s.of(cell, 2), cell % 10 == 0 ? 1 : 0);
            }
        }
        s.dig(1);
        s.undo();
        s.dig(2);
        due("an undone one is gone", s.look(9), 1);
        s.survey();
        due("a SURVEY forgets", s.undo(), false);
        s.dig(3);
        s.spring();
        due("a SPRING forgets", s.look(9), 0);
        s.dig(4);
        s.land(5, 5);
        due("land() forgets", s.undo(), false);
        s.dig(4);
        s.land(1, 5);
        due("land() that can't be forgets nothing", s.undo(), true);
    }

    private static void promise8() {
        sentence("promise 8");
        SwallowSurvey s = new SwallowSurvey();
        due("barn(55)", s.barn(55), true);
        due("barn(55) again", s.barn(55), false);
        due("of(55, 3)", s.of(55, 3), 1);
        due("of(54, 3)", s.of(54, 3), 0);
        for (int cell : new int[] {6, 60, 100, -1, MIN, MAX}) {
            due("barn(" + cell + ")", s.barn(cell), false);
        }
        // A thread down the middle comes and goes: the BARN's COUNTY is 3 or 0.
        s.swallow(3, 0, 2, 6, 0);
        s.survey();
        due("the first is not counted", s.of(55, 7), 0);
        habit(s, 0, "stop;");
        s.survey();
        due("MOVES", s.of(55, 7), 1);
        s.survey();
        due("MOVES without a change", s.of(55, 7), 1);
        habit(s, 0, "");
        s.spring();
        due("MOVES by a SPRING", s.of(55, 7), 2);
        s.barn(5);
        s.steal(0, 0, 60);
        due("a theft is no SURVEY", s.of(55, 7), 2);
        s.survey();
        due("MOVES behind a theft", s.of(55, 7), 2);
        due("a late BARN's first", s.of(5, 7), 0);
        habit(s, 0, "stop;");
        s.survey();
        due("a late BARN's second", s.of(5, 7), 1);
        due("MOVES", s.of(55, 7), 3);
        due("MOVES without a BARN", s.of(54, 7), 0);
    }

    private static void promise9() {
        sentence("promise 9");
        SwallowSurvey s = withHabit("left when step=0;right when step=1;back when step=2;");
        s.swallow(3, 3, 0, 3, 0);
        dueEnd(s, 0, 2, 3, 3, 2);
        due("mirror(3, 3, true)", s.mirror(3, 3, true), true);
        dueEnd(s, 0, 4, 3, 3, 0);
        due("mirror(3, 3, true) again", s.mirror(3, 3, true), true);
        due("mirror(4, 3, true)", s.mirror(4, 3, true), true);
        // right, then left as right is mirrored too: up; at (4, 2) back is back.
        dueEnd(s, 0, 4, 3, 3, 2);
        due("mirror(4, 2, true)", s.mirror(4, 2, true), true);
        dueEnd(s, 0, 4, 3, 3, 2);
        due("mirror(3, 3, false)", s.mirror(3, 3, false), true);
        due("mirror(3, 3, false) again", s.mirror(3, 3, false), true);
        dueEnd(s, 0, 2, 3, 3, 2);
        due("mirror(0, 0, true)", s.mirror(0, 0, true), true);
        due("mirror(6, 6, true)", s.mirror(6, 6, true), true);
        due("mirror(7, 6, true)", s.mirror(7, 6, true), false);
        due("mirror(6, 7, true)", s.mirror(6, 7, true), false);
        due("mirror(-1, 0, false)", s.mirror(-1, 0, false), false);
        due("mirror(0, MIN, true)", s.mirror(0, MIN, true), false);
        due("mirror(MAX, 0, true)", s.mirror(MAX, 0, true), false);
    }

    private static void promise10() {
        sentence("promise 10");
        SwallowSurvey s = new SwallowSurvey();
        due("nest(7, 0)", s.nest(7, 0), NONE);
        due("nest(0, 7)", s.nest(0, 7), NONE);
        due("nest(-1, 0)", s.nest(-1, 0), NONE);
        due("nest(0, MIN)", s.nest(0, MIN), NONE);
        for (int i = 0; i < 6; i++) {
            due("nest", s.nest(6, 6), i);
        }
        due("the seventh nest", s.nest(0, 0), NONE);
        due("look(5)", s.look(5), 6);
    }

    private static void promise11() {
        sentence("promise 11");
        SwallowSurvey s = new SwallowSurvey();
        int[][] wrongs = {{7, 0, 0, 1, 0}, {0, 7, 0, 1, 0}, {-1, 0, 0, 1, 0}, {0, -1, 0, 1, 0}, {0, 0, -1, 1, 0},
            {0, 0, 4, 1, 0}, {0, 0, 0, -1, 0}, {0, 0, 0, 61, 0}, {0, 0, 0, 1, -1}, {0, 0, 0, 1, 4},
            {MIN, MAX, MIN, MAX, MIN}};
        for (int[] a : wrongs) {
            due("swallow that can't be", s.swallow(a[0], a[1], a[2], a[3], a[4]), NONE);
        }
        due("look(4)", s.look(4), 0);
        for (int i = 0; i < 8; i++) {
            due("swallow", s.swallow(i % 2 * 6, i % 3 * 3, i % 4, i % 2 * 60, i % 4), i);
        }
        due("the ninth swallow", s.swallow(0, 0, 0, 0, 0), NONE);
        due("look(4)", s.look(4), 8);
    }

    private static void promise12and13() {
        sentence("promise 12");
        SwallowSurvey s = new SwallowSurvey();
        // "left", ";   ", then high bytes that can't stand.
        due("feed", s.feed(0x6c656674, 0x3b202020, 0xff202020, 0x80000001, -1), 20);
        due("text(0)", s.text(0), NONE);
        due("fault(1)", s.fault(1), 8);
        for (int i = 1; i <= 20; i++) {
            due("feed", s.feed(0x20202020, 0x20202020, 0x20202020, 0x20202020, 0x20202020), 20 * i);
        }
        due("feed beyond 400", s.feed(0, 0, 0, 0, 0), NONE);
        due("end(381)", s.end(381), true);
        due("feed beyond 400", s.feed(0, 0, 0, 0, 0), NONE);
        sentence("promise 13");
        due("end(382)", s.end(382), false);
        due("end(-1)", s.end(-1), false);
        due("end(MIN)", s.end(MIN), false);
        due("end(MAX)", s.end(MAX), false);
        due("end(381) again", s.end(381), true);
        due("end(380)", s.end(380), true);
        due("feed to 400", s.feed(0, 0, 0, 0, 0), 400);
        due("end(0)", s.end(0), true);
        due("end(1)", s.end(1), false);
        due("feed", s.feed(0x6c656674, 0x3b6c6566, 0x743b6c65, 0x66743b20, 0x20202020), 20);
        due("end(10)", s.end(10), true);
        due("two lines", s.text(0), 2);
    }

    private static void promise14() {
        sentence("promise 14");
        SwallowSurvey s = new SwallowSurvey();
        due("an empty TEXT", s.text(0), 0);
        due("text(3)", habit(s, 3, "left; right;\nback;"), 3);
        due("look(13)", s.look(13), 3);
        due("the TAPE is empty then", s.end(1), false);
        due("text with a FAULT", habit(s, 3, "left; rigt;"), NONE);
        due("it stays as it was", s.look(13), 3);
        due("the TAPE is empty then", s.end(1), false);
        due("fault(0)", s.fault(0), 1);
        tape(s, "left;");
        due("text(4)", s.text(4), NONE);
        due("fault(0)", s.fault(0), 0);
        due("fault(1)", s.fault(1), NONE);
        due("the TAPE is empty then", s.end(1), false);
        due("text(-1)", habit(s, -1, "rigt"), NONE);
        due("fault(0)", s.fault(0), 0);
        due("text(MIN)", s.text(MIN), NONE);
        due("text(MAX)", s.text(MAX), NONE);
        due("text(3) emptied", s.text(3), 0);
        due("look(13)", s.look(13), 0);
        dueLines("ahead;left;right;back;stop;", 5);
        dueLines("  ahead\n;\n ", 1);
        dueLines("ahead when fl<1;left when 1=0001 or pl>0 and not rim=1;", 2);
        dueLines("left when((fl+1*2/3-4=0)and(not(1<2)));", 1);
        dueLines("left when not not not not not not not not 1=1;", 1);
        dueLines("left when not 1=1 and not 1=1 and not 1=1 or not 1=1 or not 1=1 or not 1=1 or not 1=1 or not 1=1"
                + " or not 1=1 or (1=1);", 1);
        dueLines("left when ((((((((1=1))))))))and((((((((1=1))))))));", 1);
        dueLines("left;".repeat(16), 16);
        dueLines("left when 12fl=1;".replace("12fl", "12"), 1);
        dueLines(" ".repeat(400), 0);
    }

    private static void promise15() {
        sentence("promise 15");
        SwallowSurvey s = new SwallowSurvey();
        for (int what : new int[] {2, -1, MIN, MAX}) {
            due("fault(" + what + ")", s.fault(what), NONE);
        }
        habit(s, 0, "what");
        due("fault(0)", s.fault(0), 1);
        due("fault(1)", s.fault(1), 0);
        habit(s, 0, "left;");
        due("fault(0) of a good one", s.fault(0), 0);
        due("fault(1) of a good one", s.fault(1), NONE);
        dueFault("left", 1, 4);
        dueFault("left  \n", 1, 7);
        dueFault("left right;", 1, 5);
        dueFault("when", 1, 0);
        dueFault(";", 1, 0);
        dueFault("leftright;", 1, 0);
        dueFault("leftX;", 1, 0);
        dueFault("leftA;", 1, 0);
        dueFault("leftZ;", 1, 0);
        dueFault("leftz;", 1, 0);
        dueFault("left@;", 1, 4);
        dueFault("left[;", 1, 4);
        dueFault("left`;", 1, 4);
        dueFault("left{;", 1, 4);
        dueFault("Left;", 1, 0);
        dueFault("left when fl=1:", 1, 14);
        dueFault("left when fl=1 when", 1, 15);
        dueFault("left when when", 1, 10);
        dueFault("left1;", 1, 4);
        dueFault("left;;", 1, 5);
        dueFault("left\t;", 1, 4);
        dueFault("left when;", 1, 9);
        dueFault("left when fl;", 1, 12);
        dueFault("left when fl=;", 1, 13);
        dueFault("left when fl=1", 1, 14);
        dueFault("left when fl=1=1;", 1, 14);
        dueFault("left when fl+;", 1, 13);
        dueFault("left when fl fr", 1, 13);
        dueFault("left when 1=12345;", 1, 12);
        dueFault("left when 1=00000;", 1, 12);
        dueFault("left when fl=1 1;", 1, 15);
        dueFault("left when fl=1 left;", 1, 15);
        dueFault("left when fl=1 not;", 1, 15);
        dueFault("left when fl=1 and;", 1, 18);
        dueFault("left when not;", 1, 13);
        dueFault("left when (fl)=1;", 1, 13);
        dueFault("left when (fl=1;", 1, 15);
        dueFault("left when fl=1);", 1, 14);
        dueFault("left when (fl=1) fl", 1, 17);
        dueFault("left when (fl=1)+1", 1, 16);
        dueFault("left when (fl=1)(", 1, 16);
        dueFault("left when fl=(1);", 1, 13);
        dueFault("left when fl=-1;", 1, 13);
        dueFault("left when fl/fr=1;", 1, 13);
        dueFault("left when fl/(2)=1;", 1, 13);
        dueFault("left when fl/0=1;", 2, 13);
        dueFault("left when fl / 0000 # ;", 2, 15);
        dueFault("left when fl/00000=1;", 1, 13);
        dueFault("left when 1=fl/0", 2, 15);
        dueFault("left when fl*0/0=1;", 2, 15);
        dueFault("left;".repeat(16) + "x", 1, 80);
        dueFault("left;".repeat(16) + " right", 3, 81);
        dueFault("left;".repeat(16) + ";", 1, 80);
        dueFault("left when " + "not ".repeat(9) + "1=1;", 3, 42);
        dueFault("left when " + "(".repeat(9) + "1=1", 3, 18);
        dueFault("left when " + "(not ".repeat(4) + "1=1 and (", 1, 39);
        dueFault("left when " + "(not ".repeat(4) + "1=1 and ((", 3, 39);
        dueFault("left when 1=1 and not " + "(not ".repeat(3) + "(1=1) or not not", 1, 53);
        dueFault("left when 1=1 and not " + "(not ".repeat(3) + "(1=1) or not not not", 3, 54);
        dueFault("left when ((((((((1=1))))))))and(((((((((", 3, 40);
        dueFault("left when ((((((((1=1(", 1, 21);
        dueFault("left when \u00e9", 1, 10);
        // What stood behind the end doesn't count.
        tape(s, "left when 1=12345;");
        s.end(15);
        due("a cut number", s.text(0), NONE);
        due("its FAULT is at the end", s.fault(1), 15);
        tape(s, "leftright;");
        s.end(4);
        due("a cut word", s.text(0), NONE);
        due("its FAULT is at the end", s.fault(1), 4);
    }

    private static void promise16() {
        sentence("promise 16");
        SwallowSurvey s = new SwallowSurvey();
        due("survey() without swallows", s.survey(), 1);
        s.swallow(3, 0, 2, 5, 0);
        due("a thread that parts nothing", s.survey(), 1);
        s.swallow(0, 5, 1, 6, 0);
        due("two threads", s.survey(), 3);
        due("of(0, 6)", s.of(0, 6), 15);
        due("of(3, 5)", s.of(3, 5), 3);
        due("of(55, 5)", s.of(55, 5), 50);
        due("survey() again", s.survey(), 3);
        due("look(8)", s.look(8), 11);
        // Round one CELL and on over its own thread, whose STEPS stay.
        s = withHabit("left;");
        s.swallow(2, 2, 1, 60, 0);
        due("a ring", s.survey(), 2);
        due("YARDS of a ring", s.look(8), 4);
        due("its own of the first round", s.yard(2, 2, 0, 1), 0);
        due("its own of the first round", s.yard(2, 2, 3, 1), 3);
        due("no SUIT with oneself", s.look(7), 0);
        dueEnd(s, 0, 2, 2, 60, 1);
        // No thread at all: not even a turn.
        s.swallow(5, 5, 1, 0, 0);
        dueEnd(s, 1, 5, 5, 0, 1);
        // A turn towards the rim counts as HEADING, a stop does not turn.
        s = withHabit("left when step=2;");
        s.swallow(0, 2, 0, 9, 0);
        dueEnd(s, 0, 0, 0, 2, 3);
        s = withHabit("stop when step=2;left;");
        s.swallow(3, 3, 0, 9, 0);
        dueEnd(s, 0, 2, 4, 2, 2);
        // A CAT at any of the four CELLS of a POINT that is come to, not of that where it begins.
        for (int cell : new int[] {12, 13, 22, 23}) {
            s = new SwallowSurvey();
            s.tell(cell, 2, 1);
            s.swallow(0, 2, 1, 6, 0);
            dueEnd(s, 0, cell % 10, 2, cell % 10, 1);
            s.swallow(3, 2, 2, 6, 0);
            dueEnd(s, 1, 3, cell >= 20 ? 3 : 6, cell >= 20 ? 1 : 4, 2);
        }
    }

    private static void promise16Suits() {
        sentence("promise 16");
        SwallowSurvey s = new SwallowSurvey();
        s.swallow(2, 0, 2, 6, 0);
        s.swallow(4, 0, 2, 6, 0);
        s.swallow(0, 3, 1, 6, 0);
        s.swallow(0, 3, 1, 6, 0);
        s.survey();
        due("SUITS", s.look(7), 8);
        due("the third's first", s.suit(0, 0) * 10 + s.suit(0, 1), 20);
        due("the third's second", s.suit(1, 0) * 10 + s.suit(1, 1), 21);
        int[] others = {2, 0, 2, 1, 2, 2};
        for (int i = 0; i < 6; i++) {
            due("the fourth's other", s.suit(2 + i, 1), others[i]);
            due("the fourth's STEP", s.suit(2 + i, 4), i);
            due("the fourth's x", s.suit(2 + i, 2), i + 1);
        }
        due("another's thread stays", s.yard(0, 3, 1, 0), 2);
        // Eight over one YARD to and fro: 7 * 60 SUITS would be.
        s = withHabit("back when step>0;");
        for (int i = 0; i < 8; i++) {
            s.swallow(2, 2, 1, 60, 0);
        }
        s.survey();
        due("99 SUITS in all", s.look(7), 99);
        due("the last SUIT", s.suit(98, 0) * 100 + s.suit(98, 4), 238);
        due("one YARD", s.look(8), 1);
        s.survey();
        due("SUITS go with a SURVEY", s.look(7), 99);
    }

    /** What the keywords mean, each seen by a turn that hangs on it. */
    private static void promise16Values() {
        sentence("promise 16");
        int[][] leftRight = {{22, 23}, {23, 33}, {33, 32}, {32, 22}};
        for (int heading = 0; heading < 4; heading++) {
            int left = leftRight[heading][0];
            int right = leftRight[heading][1];
            dueTurn("fl=7", heading, left, 7, false, 1);
            dueTurn("fl=7", heading, right, 7, false, 0);
            dueTurn("fr=7", heading, right, 7, false, 1);
            dueTurn("fr=7", heading, left, 7, false, 0);
            dueTurn("fl=27", heading, left, 7, true, 1);
            dueTurn("fr=5", heading, left, 7, true, 1);
            dueTurn("pl=1 and pr=0", heading, left, 0, true, 1);
            dueTurn("pr=1 and pl=0", heading, right, 0, true, 1);
            dueTurn("thread=0 and rim=0 and step=0 and rest=1 and swallow=0", heading, 0, 0, false, 1);
        }
        SwallowSurvey s = withHabit("stop when thread=1;");
        s.swallow(3, 0, 2, 6, 1);
        s.swallow(3, 6, 0, 6, 0);
        dueEnd(s, 1, 3, 6, 0, 0);
        s.swallow(2, 3, 1, 4, 0);
        dueEnd(s, 2, 6, 3, 4, 1);
        s = withHabit("right when rim=1;");
        s.swallow(0, 0, 0, 30, 0);
        dueEnd(s, 0, 6, 0, 30, 1);
        s = withHabit("right when rest=4;stop when rest=1;");
        s.swallow(0, 0, 1, 6, 0);
        dueEnd(s, 0, 2, 3, 5, 2);
        s = withHabit("right when swallow=1 and step=1;");
        s.swallow(0, 0, 1, 3, 0);
        s.swallow(0, 0, 1, 3, 0);
        dueEnd(s, 0, 3, 0, 3, 1);
        dueEnd(s, 1, 1, 2, 3, 2);
        // At the rim there is neither CELL nor thread.
        s = withHabit("back when rim=1 and fl+fr+pl+pr+thread=0;");
        for (int cell = 0; cell < 6; cell++) {
            s.dig(cell);
        }
        s.swallow(3, 1, 0, 2, 0);
        dueEnd(s, 0, 3, 1, 2, 2);
    }

    private static void dueTurn(String when, int heading, int cell, int flies, boolean pond, int turned) {
        SwallowSurvey s = withHabit("back when " + when + ";");
        s.tell(cell, 0, flies);
        if (pond) {
            s.dig(cell);
        }
        s.swallow(3, 3, heading, 1, 0);
        due(when + " by HEADING " + heading + " with CELL " + cell, s.ends(0, 3), (heading + 2 * turned) % 4);
    }

    private static void promise16Signs() {
        sentence("promise 16");
        dueSo("1<2", true);
        dueSo("2<2", false);
        dueSo("2=2", true);
        dueSo("2=3", false);
        dueSo("3>2", true);
        dueSo("2>2", false);
        dueSo("2+3*4=14", true);
        dueSo("2*3+4=10", true);
        dueSo("9-3-2=4", true);
        dueSo("14=2+3*4", true);
        dueSo("7/2*2=6", true);
        dueSo("7*2/4=3", true);
        dueSo("0-7/2=0-3", true);
        dueSo("100/5/2=10", true);
        dueSo("9999*9999*9999<0", true);
        dueSo("9999*9999*43>0", true);
        dueSo("9999*9999*22<0", true);
        dueSo("1=1 or 1=1 and 1=2", true);
        dueSo("(1=1 or 1=1) and 1=2", false);
        dueSo("1=2 and 1=2 or 1=1", true);
        dueSo("not 1=2 and 1=2", false);
        dueSo("not (1=2 and 1=2)", true);
        dueSo("not 1=1 or 1=1", true);
        dueSo("not not 1=1", true);
        dueSo("not (not 1=1 or 1=1)", false);
        dueSo("((((((((1=1))))))))", true);
        dueSo("1=1 and (1=2 or (1=1 and (1=2 or (1=1 and (1=2 or (1=1 and (1=2 or 1=1)))))))", true);
        dueSo("0-9999*9999*9999*9999/2=0-1", false);
        SwallowSurvey s = withHabit("left when 1=2;right when 1=1;back;");
        s.swallow(3, 3, 0, 1, 0);
        dueEnd(s, 0, 4, 3, 1, 1);
        s = withHabit("left when 1=2;back;right when 1=1;");
        s.swallow(3, 3, 0, 1, 0);
        dueEnd(s, 0, 3, 4, 1, 2);
    }

    private static void promise17() {
        sentence("promise 17");
        SwallowSurvey s = new SwallowSurvey();
        s.land(3, 2);
        s.dig(1);
        s.dig(12);
        s.swallow(1, 0, 2, 2, 0);
        s.state(12345);
        due("spring()", s.spring(), 2);
        int state = 12345;
        for (int cell : new int[] {0, 1, 2, 10, 11, 12}) {
            state = state * 1664525 + 1013904223;
            due("of(" + cell + ", 0)", s.of(cell, 0), (state >>> 8) % (cell == 1 || cell == 12 ? 40 : 10));
        }
        due("look(2)", s.look(2), state);
        due("look(3)", s.look(3), 1);
        s.spring();
        due("look(3)", s.look(3), 2);
        s.survey();
        due("a SURVEY is no year", s.look(3), 2);
        // Far beyond the calls that an object is used for, but the document names the edge.
        s.land(2, 2);
        for (int year = 0; year < 9999; year++) {
            s.spring();
        }
        s.dig(0);
        int last = s.look(2);
        due("spring() behind YEAR 9999", s.spring(), NONE);
        due("look(3)", s.look(3), 9999);
        due("nothing is done", s.look(2), last);
        due("nothing is forgotten", s.look(9), 1);
        // FLIES come first: the swallow sees what was drawn.
        s = withHabit("stop when fl+fr>0;");
        s.swallow(3, 3, 0, 1, 0);
        s.state(1);
        s.spring();
        due("the flight goes by new FLIES", s.look(8), s.of(22, 0) + s.of(23, 0) > 0 ? 0 : 1);
    }

    private static void promise18() {
        sentence("promise 18");
        SwallowSurvey s = new SwallowSurvey();
        s.dig(11);
        s.dig(12);
        s.dig(0);
        s.tell(11, 0, 4);
        due("SEEN FLIES with a POND beside", s.of(11, 1), 29);
        due("SEEN FLIES beside two", s.of(1, 1), 10);
        due("SEEN FLIES beside one", s.of(13, 1), 5);
        due("SEEN FLIES over the corner", s.of(22, 1) + s.of(23, 1), 5);
        due("SEEN FLIES of a corner", s.of(0, 1), 20);
        s.land(2, 2);
        s.dig(1);
        due("no CELL beside the last of a row", s.of(10, 1), 0);
        due("of(11, 1)", s.of(11, 1), 5);
        s = busy();
        int[] answers = {9, 29, 1, 1, 1, 0, 36, 0, 8};
        for (int what = 0; what < answers.length; what++) {
            due("of(22, " + what + ")", s.of(22, what), answers[what]);
        }
        for (int what : new int[] {9, -1, MIN, MAX}) {
            due("of(22, " + what + ")", s.of(22, what), NONE);
        }
        for (int cell : new int[] {6, 60, 66, 100, -1, MIN, MAX}) {
            due("of(" + cell + ", 0)", s.of(cell, 0), NONE);
        }
    }

    private static void promise19() {
        sentence("promise 19");
        SwallowSurvey s = new SwallowSurvey();
        s.swallow(1, 0, 2, 3, 0);
        s.swallow(0, 2, 1, 3, 0);
        s.survey();
        due("yard(1, 1, 2, 0)", s.yard(1, 1, 2, 0), 0);
        due("yard(1, 1, 2, 1)", s.yard(1, 1, 2, 1), 1);
        due("yard(1, 2, 0, 1) from its other end", s.yard(1, 2, 0, 1), 1);
        due("yard(2, 2, 1, 0)", s.yard(2, 2, 1, 0), 1);
        due("yard(3, 2, 3, 1)", s.yard(3, 2, 3, 1), 2);
        due("yard(3, 2, 1, 0) without thread", s.yard(3, 2, 1, 0), NONE);
        due("yard(3, 2, 1, 1) without thread", s.yard(3, 2, 1, 1), NONE);
        due("yard(6, 6, 3, 0) at the rim", s.yard(6, 6, 3, 0), NONE);
        int[][] wrongs = {{0, 0, 0, 0}, {0, 0, 3, 0}, {6, 6, 1, 0}, {6, 6, 2, 0}, {7, 0, 3, 0}, {0, 7, 0, 0},
            {-1, 0, 1, 0}, {0, -1, 2, 0}, {0, 0, 4, 0}, {0, 0, -1, 0}, {0, 0, 1, 2}, {0, 0, 1, -1},
            {MAX, 0, 1, 0}, {0, MIN, 0, 0}, {1, 1, MIN, 0}, {1, 1, 1, MAX}};
        for (int[] a : wrongs) {
            due("yard " + java.util.Arrays.toString(a), s.yard(a[0], a[1], a[2], a[3]), NONE - 1);
        }
    }

    private static void promise20() {
        sentence("promise 20");
        SwallowSurvey s = new SwallowSurvey();
        due("suit(0, 0)", s.suit(0, 0), NONE);
        s.swallow(2, 0, 2, 6, 0);
        s.swallow(0, 4, 1, 6, 0);
        s.survey();
        int[] answers = {1, 0, 2, 4, 1, NONE};
        for (int what = 0; what < 6; what++) {
            due("suit(0, " + what + ")", s.suit(0, what), answers[what]);
        }
        s.nest(6, 6);
        due("the NEST that judges", s.suit(0, 5), 0);
        s.nest(2, 1);
        due("the nearest", s.suit(0, 5), 1);
        s.nest(5, 4);
        due("of several the least", s.suit(0, 5), 1);
        s.nest(1, 3);
        due("both differences", s.suit(0, 5), 3);
        for (int what : new int[] {6, -1, MIN, MAX}) {
            due("suit(0, " + what + ")", s.suit(0, what), NONE);
        }
        for (int i : new int[] {1, -1, MIN, MAX}) {
            due("suit(" + i + ", 0)", s.suit(i, 0), NONE);
        }
    }

    private static void promise21() {
        sentence("promise 21");
        SwallowSurvey s = new SwallowSurvey();
        s.swallow(3, 0, 2, 6, 0);
        s.swallow(0, 3, 1, 6, 0);
        s.survey();
        due("steal(0, 2, 3)", s.steal(0, 2, 3), 2);
        due("yard(3, 1, 2, 0)", s.yard(3, 1, 2, 0), 0);
        due("yard(3, 2, 2, 0)", s.yard(3, 2, 2, 0), NONE);
        due("yard(3, 3, 2, 1)", s.yard(3, 3, 2, 1), NONE);
        due("yard(3, 4, 2, 0)", s.yard(3, 4, 2, 0), 0);
        due("another's is not stolen", s.look(8), 10);
        due("SUITS stay", s.look(7), 1);
        due("look(6)", s.look(6), 2);
        due("steal(1, 5, 5)", s.steal(1, 5, 5), 1);
        due("steal(1, 0, MAX)", s.steal(1, 0, MAX), 5);
        due("steal(1, 0, 60) of nothing", s.steal(1, 0, 60), 0);
        due("steal(2, 0, 1)", s.steal(2, 0, 1), NONE);
        due("steal(-1, 0, 1)", s.steal(-1, 0, 1), NONE);
        due("steal(0, 3, 2)", s.steal(0, 3, 2), NONE);
        due("steal(0, -1, 2)", s.steal(0, -1, 2), NONE);
        due("steal(MAX, MIN, MAX)", s.steal(MAX, MIN, MAX), NONE);
        due("the rest is there", s.look(8), 4);
    }

    private static void promise22() {
        sentence("promise 22");
        SwallowSurvey s = withHabit("left when thread=1;");
        s.swallow(2, 0, 2, 6, 1);
        s.swallow(2, 3, 2, 2, 0);
        dueEnd(s, 1, 4, 3, 2, 1);
        due("nothing of it stays", s.look(8) + s.look(7) + s.look(6), 1);
        // Threads that lie now don't count in thought: all fly anew.
        s.survey();
        dueEnd(s, 1, 4, 3, 2, 1);
        due("look(8)", s.look(8), 8);
        s.hatch(0, 50, 10);
        dueEnd(s, 0, 2, 6, 6, 2);
        for (int what : new int[] {4, -1, MIN, MAX}) {
            due("ends(0, " + what + ")", s.ends(0, what), NONE);
        }
        for (int swallow : new int[] {2, -1, MIN, MAX}) {
            due("ends(" + swallow + ", 0)", s.ends(swallow, 0), NONE);
        }
        // HATCHINGS are not in END: FLIES as they are.
        s = withHabit("stop when fl>0;");
        s.swallow(1, 0, 2, 2, 0);
        s.hatch(1, 50, 10);
        due("ends without HATCHINGS", s.ends(0, 2), 2);
    }

    private static void promise23() {
        sentence("promise 23");
        // Two threads part the land in three; each stops if there is a POND beside its first YARD.
        SwallowSurvey s = withHabit("stop when pl+pr>0;");
        s.land(6, 4);
        habit(s, 0, "stop when pl+pr>0 and step=0;");
        s.swallow(2, 0, 2, 4, 0);
        s.swallow(4, 0, 2, 4, 0);
        duePlan(s, 0, 1, 0, 0, NONE, NONE);
        duePlan(s, 0, 3, 1, 1, 1, NONE);
        duePlan(s, 3, 0, 1, 1, 1, NONE);
        duePlan(s, 0, 5, 2, 2, 1, 3);
        s.tell(1, 1, 9);
        duePlan(s, 0, 3, 1, 1, 2, NONE);
        duePlan(s, 0, 5, 2, 2, 2, 3);
        s.tell(2, 1, 9);
        s.tell(3, 1, 0);
        duePlan(s, 0, 5, 9, 2, 1, 3);
        s.tell(4, 1, 0);
        duePlan(s, 0, 5, 9, 2, 1, 3);
        s.tell(1, 1, 0);
        duePlan(s, 0, 3, 0, 1, 1, NONE);
        due("nothing of it stays", s.of(1, 2) + s.of(3, 2) + s.look(8) + s.look(9), 0);
        s.dig(1);
        duePlan(s, 0, 5, 0, 1, 3, NONE);
        s.dig(4);
        duePlan(s, 0, 5, 0, 0, NONE, NONE);
        habit(s, 0, "");
        duePlan(s, 0, 5, NONE, NONE, NONE, NONE);
        // So already as threads lie now, but not as they would.
        due("look(6)", s.look(6), 1);
        for (int what : new int[] {4, -1, MIN, MAX}) {
            due("plan(0, 1, " + what + ")", s.plan(0, 1, what), NONE);
        }
        due("plan(0, 0, 0)", s.plan(0, 0, 0), NONE);
        due("plan(0, 6, 0)", s.plan(0, 6, 0), NONE);
        due("plan(-1, 0, 0)", s.plan(-1, 0, 0), NONE);
        due("plan(MIN, MAX, 0)", s.plan(MIN, MAX, 0), NONE);
        s.land(4, 9);
        due("36 CELLS", s.plan(0, 1, 0), 0);
        s.land(4, 10);
        due("40 CELLS", s.plan(0, 1, 0), NONE);
        // Two cheap ones are better than one that is dear.
        s.land(2, 2);
        habit(s, 0, "stop when fl+fr>29 and step=0;");
        s.swallow(1, 0, 2, 2, 0);
        duePlan(s, 0, 1, 2, 2, 0, 1);
        habit(s, 0, "stop when step=0 and (fl+fr>49 or fl+fr=25 and pl=1);");
        s.tell(1, 1, 3);
        duePlan(s, 0, 1, 3, 1, 1, NONE);
        habit(s, 0, "stop when step=0 and fl=20 and fr=10;");
        s.tell(11, 1, 0);
        s.tell(10, 1, 0);
        duePlan(s, 0, 1, 3, 2, 1, 10);
    }

    private static void promise24() {
        sentence("promise 24");
        SwallowSurvey s = new SwallowSurvey();
        int[][] wrongs = {{6, 1, 1}, {60, 1, 1}, {-1, 1, 1}, {0, -1, 1}, {0, 100, 1}, {0, 1, -1}, {0, 1, 11},
            {MIN, MAX, MIN}};
        for (int[] a : wrongs) {
            due("hatch that can't be", s.hatch(a[0], a[1], a[2]), NONE);
        }
        for (int i = 0; i < 6; i++) {
            due("hatch", s.hatch(i, i % 2 * 99, i % 2 * 10), i);
            due("hatch in the same CELL", s.hatch(i, 1, 1), NONE);
        }
        due("the seventh hatch", s.hatch(10, 1, 1), NONE);
        due("look(20)", s.look(20), 6);
        due("FLIES are as they were", s.of(1, 0), 0);
    }

    private static void promise25() {
        sentence("promise 25");
        SwallowSurvey s = withHabit("stop when fl>10;");
        s.swallow(3, 0, 2, 6, 0);
        due("odds without HATCHINGS", s.odds(0, 5), 0);
        due("odds without HATCHINGS", s.odds(0, 2), 1);
        due("odds(7, 7)", s.odds(7, 7), NONE);
        s.hatch(3, 10, 9);
        due("too few FLIES", s.odds(0, 5), 0);
        s.hatch(13, 11, 3);
        due("odds(0, 5)", s.odds(0, 5), 30);
        s.hatch(23, 99, 4);
        due("odds(0, 5)", s.odds(0, 5), 580);
        s.tell(3, 0, 1);
        due("more FLIES than there were", s.odds(0, 5), 1000 - 42);
        due("odds(5, 5)", s.odds(5, 5), 1000);
        s.hatch(53, 99, 10);
        due("sure", s.odds(0, 5), 10000);
        s.hatch(52, 99, 0);
        s.hatch(51, 99, 5);
        due("sure", s.odds(5, 0), 1000000);
        due("nothing of it stays", s.look(8) + s.of(53, 0), 0);
        due("FLIES of a HATCHING go beyond 99", oddsBeyond(), 10);
        due("odds(6, 0)", s.odds(6, 0), NONE);
        due("odds(0, 6)", s.odds(0, 6), NONE);
        due("odds(-1, 0)", s.odds(-1, 0), NONE);
        due("odds(MIN, MAX)", s.odds(MIN, MAX), NONE);
    }

    private static int oddsBeyond() {
        SwallowSurvey s = withHabit("stop when fl=99+99;");
        s.swallow(3, 0, 2, 6, 0);
        s.tell(3, 0, 99);
        s.hatch(3, 99, 10);
        return s.odds(0, 5);
    }

    private static void promise26() {
        sentence("promise 26");
        SwallowSurvey s = new SwallowSurvey();
        due("claim(0, 0, true)", s.claim(0, 0, true), false);
        due("claim(0, 6, true)", s.claim(0, 6, true), false);
        due("claim(60, 0, true)", s.claim(60, 0, true), false);
        due("claim(-1, 0, true)", s.claim(-1, 0, true), false);
        due("claim(MIN, MAX, true)", s.claim(MIN, MAX, true), false);
        for (int i = 0; i < 20; i++) {
            due("claim", s.claim(0, 1 + i % 5, i % 2 == 0), true);
        }
        due("the 21st claim", s.claim(0, 1, true), false);
        due("look(21)", s.look(21), 20);
    }

    private static void promise27() {
        sentence("promise 27");
        SwallowSurvey s = withHabit("stop when fl>10;");
        s.swallow(2, 0, 2, 6, 0);
        s.swallow(4, 0, 2, 6, 0);
        dueBack(s, 1, 0, 0);
        s.hatch(2, 20, 0);
        s.hatch(4, 20, 10);
        s.hatch(14, 20, 5);
        dueBack(s, 8, 0, 0);
        s.claim(3, 5, true);
        dueBack(s, 6, 0, 2);
        for (int what : new int[] {3, -1, MIN, MAX}) {
            due("back(" + what + ")", s.back(what), NONE);
        }
        s.claim(0, 3, true);
        dueBack(s, 3, 1, 3);
        s.claim(5, 1, true);
        dueBack(s, 3, 1, 3);
        s.claim(50, 55, false);
        dueBack(s, 0, 0, NONE);
        due("nothing of it stays", s.look(8) + s.of(2, 0), 0);
        s = withHabit("stop when fl>10;");
        s.swallow(2, 0, 2, 6, 0);
        s.hatch(12, 20, 0);
        s.hatch(32, 20, 0);
        s.hatch(50, 20, 0);
        s.claim(0, 2, false);
        dueBack(s, 2, 0, 0);
    }

    private static void promise28() {
        sentence("promise 28");
        SwallowSurvey s = new SwallowSurvey();
        due("part(0, 55)", s.part(0, 55), 2);
        due("part(11, 44)", s.part(11, 44), 4);
        due("part(11, 12)", s.part(11, 12), 4);
        due("part(1, 44)", s.part(1, 44), 3);
        s.swallow(3, 0, 2, 5, 0);
        due("threads as they lie, not as they would", s.part(11, 14), 4);
        s.survey();
        due("through one gap", s.part(11, 14), 1);
        s.steal(0, 0, 0);
        due("through two gaps", s.part(11, 14), 2);
        s.steal(0, 2, 2);
        due("through three gaps", s.part(14, 11), 3);
        due("on one side", s.part(11, 41), 4);
        due("part(0, 0)", s.part(0, 0), NONE);
        due("part(6, 0)", s.part(6, 0), NONE);
        due("part(0, 60)", s.part(0, 60), NONE);
        due("part(-1, 0)", s.part(-1, 0), NONE);
        due("part(MIN, MAX)", s.part(MIN, MAX), NONE);
        s.land(2, 2);
        due("part(0, 11)", s.part(0, 11), 2);
        s.swallow(1, 0, 2, 2, 0);
        s.survey();
        due("parted already", s.part(0, 11), 0);
        due("part(0, 10)", s.part(0, 10), 1);
    }

    private static void promise29() {
        sentence("promise 29");
        SwallowSurvey s = busy();
        s.survey();
        s.dig(0);
        long before = sum(s);
        due("image(true)", s.image(true), true);
        due("the image takes no undo away", s.look(9), 1);
        s.undo();
        tape(s, "left left");
        s.text(0);
        s.spring();
        s.land(3, 9);
        s.swallow(1, 1, 1, 1, 1);
        s.survey();
        s.dig(1);
        s.feed(1, 2, 3, 4, 5);
        due("image(false)", s.image(false), true);
        due("all is as it was", sum(s), before);
        due("nothing can be undone", s.undo(), false);
        due("look(9)", s.look(9), 0);
        due("fault() is not of it", s.fault(0), 1);
        due("the TAPE is not of it", s.end(20), true);
        habit(s, 0, "");
        s.state(5);
        s.fill(0);
        s.steal(0, 0, 60);
        s.barn(0);
        s.mirror(0, 0, false);
        due("image(false) again", s.image(false), true);
        due("all is as it was", sum(s), before);
        s.state(123);
        s.image(true);
        s.state(7);
        s.image(false);
        due("a later image", s.look(2), 123);
        // The BARN's latest name is of the image too.
        s = new SwallowSurvey();
        s.barn(55);
        s.swallow(3, 0, 2, 6, 0);
        s.survey();
        s.image(true);
        habit(s, 0, "stop;");
        s.survey();
        due("of(55, 7)", s.of(55, 7), 1);
        s.image(false);
        due("of(55, 7)", s.of(55, 7), 0);
        s.survey();
        due("of(55, 7)", s.of(55, 7), 0);
    }

    /** One number of all that can be asked. */
    private static long sum(SwallowSurvey s) {
        long sum = 0;
        for (int what = 0; what < 22; what++) {
            sum = sum * 31 + (what == 9 ? 0 : s.look(what));
        }
        for (int cell = 0; cell < 100; cell++) {
            for (int what = 0; what < 9; what++) {
                sum = sum * 31 + s.of(cell, what);
            }
        }
        for (int i = 0; i < 121 * 8; i++) {
            sum = sum * 31 + s.yard(i / 8 % 11, i / 88, i % 4, i / 4 % 2);
        }
        for (int i = 0; i < 60; i++) {
            sum = sum * 31 + s.suit(i / 6, i % 6);
        }
        for (int i = 0; i < 8; i++) {
            sum = sum * 31 + s.ends(i / 4, i % 4);
        }
        return sum * 31 + s.back(0) * 7 + s.odds(0, 5);
    }

    private static void promise30() {
        sentence("promise 30");
        SwallowSurvey s = busy();
        habit(s, 3, "left;right;");
        s.land(7, 8);
        due("look(0)", s.look(0), 7);
        due("look(1)", s.look(1), 8);
        s = busy();
        habit(s, 3, "left;right;");
        s.tell(22, 2, 0);
        s.survey();
        int[] behind = {6, 6, 77, 0, 2, 1, 4, 1, 12, 0, 1, 0, 0, 2};
        for (int what = 0; what < behind.length; what++) {
            due("look(" + what + ")", s.look(what), behind[what]);
        }
        due("look(20)", s.look(20), 1);
        due("look(21)", s.look(21), 1);
        s.spring();
        due("look(3)", s.look(3), 1);
        for (int what : new int[] {14, 15, 19, 22, -1, MIN, MAX}) {
            due("look(" + what + ")", s.look(what), NONE);
        }
    }
}
