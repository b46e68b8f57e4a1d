/** Boundary cases of promises 1 to 11 and of part 1 of 'Terms': each sentence at its bound and beyond it. */
public final class BoundsLandTest extends Checks {
    private static final int[][] LANDS = {{2, 2}, {2, 10}, {10, 2}, {10, 10}, {6, 6}, {3, 7}};

    public static void main(String[] args) {
        aNewObject();
        state();
        draws();
        drawsOfTenAndForty();
        sides();
        landToldAnew();
        landKeeps();
        cellsOfLands();
        cellsOfCalls();
        pointsOfLands();
        flies();
        prices();
        cats();
        tellOfAnother();
        seenFlies();
        seenFliesAtTheRim();
        ponds();
        undoKeepsTen();
        undoGoesBackByOrder();
        undoIsForgotten();
        undoIsNotForgotten();
        barns();
        mirrors();
        mirrorsOfLands();
        mirrorsOfALandToldAnew();
        nests();
        swallowsAtBounds();
        swallowsBeyondBounds();
        eightSwallows();
        finish();
    }

    private static void aNewObject() {
        sentence("1: a land of six by six, no swallows");
        SwallowSurvey s = new SwallowSurvey();
        due("look(0)", s.look(0), 6);
        due("look(1)", s.look(1), 6);
        due("look(4)", s.look(4), 0);
        due("ends(0, 0)", s.ends(0, 0), NONE);
        due("of(55, 6)", s.of(55, 6), 36);
        due("of(56, 6)", s.of(56, 6), NONE);
        due("of(65, 6)", s.of(65, 6), NONE);
        for (int cell = 0; cell < 56; cell += cell % 10 == 5 ? 5 : 1) {
            for (int what : new int[] {0, 1, 2, 3, 4, 7}) {
                due("of(" + cell + ", " + what + ") at first", s.of(cell, what), 0);
            }
            due("of(" + cell + ", 8) at first", s.of(cell, 8), 1);
        }
        sentence("1: what is none, empty or 0 at first");
        s = new SwallowSurvey();
        for (int what : new int[] {2, 3, 4, 5, 7, 8, 9, 10, 11, 12, 13, 20, 21}) {
            due("look(" + what + ") at first", s.look(what), 0);
        }
        due("one COUNTY at first", s.look(6), 1);
        due("undo() at first", s.undo(), false);
        due("image(false) at first", s.image(false), false);
        due("the TAPE at first", s.end(1), false);
        due("the TAPE at first", s.end(0), true);
        due("fault(0) at first", s.fault(0), 0);
        due("fault(1) at first", s.fault(1), NONE);
        due("suit(0, 0) at first", s.suit(0, 0), NONE);
        due("back(0) at first", s.back(0), 1);
        due("odds(0, 55) at first", s.odds(0, 55), 1);
    }

    private static void state() {
        sentence("2: STATE (an int, 0 at first) is told: what it was");
        SwallowSurvey s = new SwallowSurvey();
        int was = 0;
        for (int v : new int[] {MAX, MIN, -1, 0, 1, 0x7fffff00, 0x80000000, 0xff, 12345}) {
            due("state(" + v + ")", s.state(v), was);
            due("look(2)", s.look(2), v);
            was = v;
        }
    }

    /** The same as a DRAW, without ints that wrap. */
    private static long behindDraw(long state) {
        return (1664525L * (state & 0xffffffffL) + 1013904223L) & 0xffffffffL;
    }

    /** STATE from which a DRAW comes to another one: times the inverse of 1664525. */
    private static int aheadOf(int state) {
        int inverse = 1;
        for (int i = 0; i < 6; i++) {
            inverse *= 2 - 1664525 * inverse;
        }
        return (state - 1013904223) * inverse;
    }

    private static void draws() {
        sentence("Terms: STATE becomes 1664525 times itself + 1013904223 (ints, which wrap)");
        for (int first : new int[] {0, 1, -1, MAX, MIN, MAX - 1, MIN + 1, 2581, 1 << 16}) {
            SwallowSurvey s = onLand(2, 2);
            s.state(first);
            s.spring();
            long state = first;
            for (int i = 0; i < 4; i++) {
                state = behindDraw(state);
            }
            due("look(2) behind four draws from " + first, s.look(2), (int) state);
        }
    }

    private static void drawsOfTenAndForty() {
        sentence("Terms: a DRAW is the highest 24 bits (without sign) modulo m: 40 with a POND, else 10");
        int[] states = {0, 255, 256, 511, 9 << 8, 10 << 8, 11 << 8, 39 << 8, 40 << 8, 41 << 8, MAX, MIN, MIN + 255,
            MIN + 256, -1, -256, -257};
        for (int state : states) {
            int bits = (int) ((state & 0xffffffffL) / 256);
            for (int pond = 0; pond < 2; pond++) {
                SwallowSurvey s = onLand(2, 2);
                if (pond == 1) {
                    s.dig(0);
                }
                s.state(aheadOf(state));
                s.spring();
                due("FLIES by STATE " + state + ", PONDS " + pond, s.of(0, 0), bits % (pond == 1 ? 40 : 10));
            }
        }
    }

    private static void sides() {
        sentence("3: W, H 2 .. 10; false, and nothing is done, if they can't be");
        for (int w = -1; w <= 13; w++) {
            SwallowSurvey s = new SwallowSurvey();
            int isW = 6;
            int isH = 6;
            for (int h = -1; h <= 13; h++) {
                boolean can = w >= 2 && w <= 10 && h >= 2 && h <= 10;
                due("land(" + w + ", " + h + ")", s.land(w, h), can);
                isW = can ? w : isW;
                isH = can ? h : isH;
                due("W behind land(" + w + ", " + h + ")", s.look(0), isW);
                due("H behind land(" + w + ", " + h + ")", s.look(1), isH);
                due("CELLS behind land(" + w + ", " + h + ")", s.of(0, 6), isW * isH);
            }
        }
        SwallowSurvey s = new SwallowSurvey();
        for (int side : beyond(2, 10)) {
            for (int other : new int[] {2, 6, 10}) {
                due("land(" + side + ", " + other + ")", s.land(side, other), false);
                due("land(" + other + ", " + side + ")", s.land(other, side), false);
            }
            due("land(" + side + ", " + side + ")", s.land(side, side), false);
            due("W stays", s.look(0) * 100 + s.look(1), 606);
        }
    }

    private static void landToldAnew() {
        sentence("3: told anew, all is as at first but W, H, STATE, the TAPE, fault() and THE IMAGE");
        SwallowSurvey used = Twins.scene();
        SwallowSurvey first = new SwallowSurvey();
        first.state(used.look(2));
        due("land(4, 4)", used.land(4, 4) && first.land(4, 4), true);
        Twins.dueAlike("land as at first", Twins.see(used), Twins.see(first), "fault");
        used = Twins.scene();
        first = new SwallowSurvey();
        first.state(used.look(2));
        used.land(3, 5);
        first.land(3, 5);
        // MIRRORS, names of COUNTIES behind a SURVEY and HABITS show only when something flies and stands there.
        for (SwallowSurvey s : new SwallowSurvey[] {used, first}) {
            s.barn(33);
            s.barn(11);
            s.swallow(0, 1, 1, 3, 0);
            s.swallow(1, 0, 2, 5, 1);
            s.swallow(2, 5, 0, 5, 2);
            s.swallow(3, 3, 3, 3, 3);
            habit(s, 0, "left;");
            habit(s, 1, "right when step=1;");
            s.survey();
            habit(s, 0, "");
            s.spring();
        }
        Twins.dueAlike("flights as at first", Twins.see(used), Twins.see(first), "fault");
    }

    private static void landKeeps() {
        sentence("3: land() leaves STATE, the TAPE, fault() and THE IMAGE");
        SwallowSurvey s = new SwallowSurvey();
        s.state(-99);
        s.tell(0, 0, 42);
        s.image(true);
        habit(s, 0, "left; ?");
        tape(s, "left;right;");
        s.land(2, 3);
        due("STATE", s.look(2), -99);
        due("fault(0)", s.fault(0), 1);
        due("fault(1)", s.fault(1), 6);
        due("the TAPE has no byte more", s.end(12), false);
        due("the TAPE has all", s.end(11), true);
        due("the TAPE's bytes", s.text(0), 2);
        due("THE IMAGE", s.image(false), true);
        due("W of THE IMAGE", s.look(0), 6);
        due("FLIES of THE IMAGE", s.of(0, 0), 42);
    }

    private static void cellsOfLands() {
        sentence("Terms 1: CELLS x 0 .. W - 1, y 0 .. H - 1; a CELL is told by 10 y + x");
        for (int[] land : LANDS) {
            SwallowSurvey s = onLand(land[0], land[1]);
            for (int cell = -21; cell <= 125; cell++) {
                boolean is = cell >= 0 && cell < 100 && cell % 10 < land[0] && cell / 10 < land[1];
                due("of(" + cell + ", 8) on " + land[0] + " by " + land[1], s.of(cell, 8), is ? 1 : NONE);
            }
            for (int cell : beyond(0, 99)) {
                due("of(" + cell + ", 8)", s.of(cell, 8), NONE);
            }
        }
    }

    /** CELLS that are not there: beside each rim, and where 10 y + x of another land would be. */
    private static int[] noCells(int w, int h) {
        int right = w < 10 ? w : 100;
        int lowestRight = w < 10 ? 10 * (h - 1) + w : 10 * h;
        return new int[] {-1, -10, -11, -10 + w - 1, right, lowestRight, 10 * h, 10 * h + w - 1, 100, 110, MIN, MAX,
            MIN + 10, MAX - 9};
    }

    private static void cellsOfCalls() {
        sentence("4, 5, 6, 8, 18, 23 to 26, 28: calls with a CELL that can't be, and with each corner of the land");
        for (int[] land : LANDS) {
            int w = land[0];
            int h = land[1];
            for (int cell : noCells(w, h)) {
                dueNoCell(w, h, cell);
            }
            int last = 10 * (h - 1);
            for (int cell : new int[] {0, w - 1, last, last + w - 1}) {
                dueCell(w, h, cell);
            }
        }
    }

    private static void dueNoCell(int w, int h, int cell) {
        SwallowSurvey s = onLand(w, h);
        String on = cell + " on " + w + " by " + h;
        for (int what = 0; what < 3; what++) {
            due("tell of " + on, s.tell(cell, what, 1), false);
        }
        due("dig of " + on, s.dig(cell), false);
        due("fill of " + on, s.fill(cell), false);
        due("barn of " + on, s.barn(cell), false);
        due("hatch of " + on, s.hatch(cell, 1, 1), NONE);
        for (int what = 0; what < 9; what++) {
            due("of " + on, s.of(cell, what), NONE);
        }
        int good = 11;
        for (int what = 0; what < 4; what++) {
            due("plan to " + on, s.plan(good, cell, what), NONE);
            due("plan from " + on, s.plan(cell, good, what), NONE);
        }
        due("odds to " + on, s.odds(good, cell), NONE);
        due("odds from " + on, s.odds(cell, good), NONE);
        due("odds from and to " + on, s.odds(cell, cell), NONE);
        due("claim to " + on, s.claim(good, cell, true), false);
        due("claim from " + on, s.claim(cell, good, true), false);
        due("part to " + on, s.part(good, cell), NONE);
        due("part from " + on, s.part(cell, good), NONE);
        due("nothing is kept", s.look(9) + s.look(20) + s.look(21), 0);
    }

    private static void dueCell(int w, int h, int cell) {
        SwallowSurvey s = onLand(w, h);
        String on = cell + " on " + w + " by " + h;
        for (int what = 0; what < 3; what++) {
            due("tell of " + on, s.tell(cell, what, 1), true);
        }
        due("dig of " + on, s.dig(cell), true);
        due("barn of " + on, s.barn(cell), true);
        due("hatch of " + on, s.hatch(cell, 1, 1), 0);
        int[] answers = {1, 21, 1, 1, 1, 0, w * h, 0, 1};
        for (int what = 0; what < 9; what++) {
            due("of " + on, s.of(cell, what), answers[what]);
        }
        int other = cell == 0 ? 1 : 0;
        int price = w * h > 36 ? NONE : 0;
        due("plan to " + on, s.plan(other, cell, 0), price);
        due("plan from " + on, s.plan(cell, other, 0), price);
        due("odds to " + on, s.odds(other, cell), 10);
        due("odds from " + on, s.odds(cell, other), 10);
        due("claim to " + on, s.claim(other, cell, true), true);
        due("claim from " + on, s.claim(cell, other, true), true);
        due("part of the corner " + on, s.part(other, cell), 2);
        due("part of the corner " + on, s.part(cell, other), 2);
        due("fill of " + on, s.fill(cell), true);
    }

    private static void pointsOfLands() {
        sentence("9, 10, 11, 19: POINTS x 0 .. W, y 0 .. H");
        for (int[] land : LANDS) {
            int w = land[0];
            int h = land[1];
            for (int x = -2; x <= 13; x++) {
                SwallowSurvey s = onLand(w, h);
                for (int y = -2; y <= 13; y++) {
                    duePoint(s, x, y, x >= 0 && x <= w && y >= 0 && y <= h);
                }
            }
            SwallowSurvey s = onLand(w, h);
            for (int v : beyond(0, 10)) {
                duePoint(s, v, 0, false);
                duePoint(s, 0, v, false);
                duePoint(s, v, h, false);
                duePoint(s, w, v, false);
                duePoint(s, v, v, false);
            }
        }
    }

    private static void duePoint(SwallowSurvey s, int x, int y, boolean is) {
        String at = "(" + x + ", " + y + ") on " + s.look(0) + " by " + s.look(1);
        due("mirror at " + at, s.mirror(x, y, true), is);
        due("no mirror at " + at, s.mirror(x, y, false), is);
        boolean isYard = false;
        for (int heading = 0; heading < 4; heading++) {
            isYard |= s.yard(x, y, heading, 0) != NONE - 1;
        }
        due("a YARD from " + at, isYard, is);
        int nests = s.look(5);
        due("nest at " + at, s.nest(x, y), is && nests < 6 ? nests : NONE);
        int swallows = s.look(4);
        due("swallow at " + at, s.swallow(x, y, 0, 1, 0), is && swallows < 8 ? swallows : NONE);
    }

    private static void flies() {
        sentence("4: FLIES 0 .. 99 (0 at first)");
        SwallowSurvey s = new SwallowSurvey();
        int now = 0;
        due("of(0, 0) at first", s.of(0, 0), 0);
        for (int v = -3; v <= 103; v++) {
            boolean can = v >= 0 && v <= 99;
            due("tell(0, 0, " + v + ")", s.tell(0, 0, v), can);
            now = can ? v : now;
            due("of(0, 0) behind " + v, s.of(0, 0), now);
        }
        for (int v : beyond(0, 99)) {
            due("tell(0, 0, " + v + ")", s.tell(0, 0, v), false);
            due("of(0, 0) behind " + v, s.of(0, 0), 99);
        }
        due("PRICE is another thing", s.of(0, 8), 1);
        due("a CAT is another thing", s.of(0, 4), 0);
    }

    private static void prices() {
        sentence("4: PRICES 0 .. 99 of CELLS, 1 at first");
        SwallowSurvey s = new SwallowSurvey();
        int now = 1;
        due("of(55, 8) at first", s.of(55, 8), 1);
        for (int v = -3; v <= 103; v++) {
            boolean can = v >= 0 && v <= 99;
            due("tell(55, 1, " + v + ")", s.tell(55, 1, v), can);
            now = can ? v : now;
            due("of(55, 8) behind " + v, s.of(55, 8), now);
        }
        for (int v : beyond(0, 99)) {
            due("tell(55, 1, " + v + ")", s.tell(55, 1, v), false);
            due("of(55, 8) behind " + v, s.of(55, 8), 99);
        }
        due("FLIES are another thing", s.of(55, 0), 0);
        due("another CELL's PRICE", s.of(54, 8), 1);
    }

    private static void cats() {
        sentence("4: CAT (0, 1), not at first");
        SwallowSurvey s = new SwallowSurvey();
        int now = 0;
        for (int v : new int[] {-1, 0, 2, 1, 2, -1, 99, 1, 0, 3, MIN, MAX, 256, 257, 1}) {
            boolean can = v == 0 || v == 1;
            due("tell(23, 2, " + v + ")", s.tell(23, 2, v), can);
            now = can ? v : now;
            due("of(23, 4) behind " + v, s.of(23, 4), now);
        }
        due("FLIES are another thing", s.of(23, 0), 0);
    }

    private static void tellOfAnother() {
        sentence("4: false if another what");
        SwallowSurvey s = new SwallowSurvey();
        for (int what : beyond(0, 2)) {
            for (int v : new int[] {0, 1, 7}) {
                due("tell(11, " + what + ", " + v + ")", s.tell(11, what, v), false);
            }
        }
        int[] first = {0, 0, 0, 0, 0, 0, 36, 0, 1};
        for (int what = 0; what < 9; what++) {
            due("of(11, " + what + ")", s.of(11, what), first[what]);
        }
    }

    private static void seenFlies() {
        sentence("18: SEEN FLIES: FLIES, and 20 if it has a POND, and 5 for each of the four CELLS beside it with one");
        SwallowSurvey s = new SwallowSurvey();
        int[] beside = {12, 21, 23, 32};
        due("of(22, 1)", s.of(22, 1), 0);
        s.tell(22, 0, 99);
        due("FLIES alone", s.of(22, 1), 99);
        s.dig(22);
        due("and a POND", s.of(22, 1), 119);
        for (int i = 0; i < 4; i++) {
            s.dig(beside[i]);
            due("and PONDS beside: " + (i + 1), s.of(22, 1), 119 + 5 * (i + 1));
        }
        for (int cell : new int[] {11, 13, 31, 33, 2, 20, 24, 42}) {
            s.dig(cell);
            due("a POND that is not beside: " + cell, s.of(22, 1), 139);
        }
        s.fill(22);
        due("PONDS beside without its own", s.of(22, 1), 119);
        s.tell(22, 0, 0);
        due("PONDS beside alone", s.of(22, 1), 20);
        due("FLIES stay", s.of(22, 0), 0);
    }

    private static void seenFliesAtTheRim() {
        sentence("18: SEEN FLIES at the rim: CELLS beside it, not those whose number is next");
        SwallowSurvey s = onLand(10, 10);
        s.dig(9);
        due("the first of the next row", s.of(10, 1), 0);
        due("beside it", s.of(8, 1) + s.of(19, 1), 10);
        s.dig(90);
        due("the last of the row ahead", s.of(89, 1), 0);
        due("beside it", s.of(91, 1) + s.of(80, 1), 10);
        for (int cell : new int[] {0, 99}) {
            due("a corner without", s.of(cell, 1), 0);
        }
        s = onLand(2, 2);
        for (int cell : new int[] {0, 1, 10, 11}) {
            s.dig(cell);
        }
        for (int cell : new int[] {0, 1, 10, 11}) {
            due("a corner with all PONDS", s.of(cell, 1), 30);
        }
    }

    private static void ponds() {
        sentence("5, 6: dig() is false if there is a POND, fill() if there is none");
        SwallowSurvey s = new SwallowSurvey();
        due("fill(0) at first", s.fill(0), false);
        due("nothing to undo of it", s.look(9), 0);
        due("dig(0)", s.dig(0), true);
        due("dig(0) again", s.dig(0), false);
        due("it is still there", s.of(0, 2), 1);
        due("one to undo", s.look(9), 1);
        due("fill(0)", s.fill(0), true);
        due("fill(0) again", s.fill(0), false);
        due("it is still filled", s.of(0, 2), 0);
        due("two to undo", s.look(9), 2);
        due("dig(0) anew", s.dig(0), true);
        due("three to undo", s.look(9), 3);
        sentence("5: all CELLS may have a POND");
        s = onLand(10, 10);
        for (int cell = 0; cell < 100; cell++) {
            due("dig(" + cell + ")", s.dig(cell), true);
            due("of(" + cell + ", 2)", s.of(cell, 2), 1);
        }
        for (int cell = 99; cell >= 0; cell--) {
            due("fill(" + cell + ")", s.fill(cell), true);
            due("of(" + cell + ", 2)", s.of(cell, 2), 0);
        }
    }

    private static void undoKeepsTen() {
        sentence("7: UNDO: 10 are kept; false if there is nothing");
        for (int dug = 0; dug <= 20; dug++) {
            SwallowSurvey s = onLand(10, 3);
            for (int cell = 0; cell < dug; cell++) {
                s.dig(cell);
                due("look(9) behind " + (cell + 1), s.look(9), Math.min(cell + 1, 10));
            }
            int kept = Math.min(dug, 10);
            for (int i = 1; i <= kept; i++) {
                due("undo() " + i + " of " + dug, s.undo(), true);
                due("the latest goes first", s.of(dug - i, 2), 0);
                due("the one ahead of it stays", i < dug ? s.of(dug - i - 1, 2) : 1, 1);
                due("look(9)", s.look(9), kept - i);
            }
            due("undo() beyond " + kept, s.undo(), false);
            due("look(9) beyond", s.look(9), 0);
            for (int cell = 0; cell < dug; cell++) {
                due("POND " + cell + " of " + dug, s.of(cell, 2), cell < dug - 10 ? 1 : 0);
            }
        }
    }

    private static void undoGoesBackByOrder() {
        sentence("7: the latest dig() or fill() not undone yet goes back");
        SwallowSurvey s = new SwallowSurvey();
        s.dig(3);
        s.fill(3);
        s.dig(3);
        s.dig(4);
        s.fill(3);
        int[][] ponds = {{1, 1}, {1, 0}, {0, 0}, {1, 0}, {0, 0}};
        for (int[] pond : ponds) {
            due("undo()", s.undo(), true);
            due("POND of 3", s.of(3, 2), pond[0]);
            due("POND of 4", s.of(4, 2), pond[1]);
        }
        due("undo() of nothing", s.undo(), false);
        due("POND of 3 stays", s.of(3, 2), 0);
        sentence("7: what is undone makes room");
        s = onLand(10, 2);
        for (int cell = 0; cell < 10; cell++) {
            s.dig(cell);
        }
        s.undo();
        s.undo();
        s.dig(18);
        s.dig(19);
        due("ten again", s.look(9), 10);
        for (int i = 0; i < 10; i++) {
            due("undo()", s.undo(), true);
        }
        due("the first was not forgotten", s.of(0, 2), 0);
        due("undo() of nothing", s.undo(), false);
        sentence("7: an undo() is no dig() or fill()");
        s.dig(0);
        s.undo();
        due("look(9) behind undo()", s.look(9), 0);
        due("an undo() can't be undone", s.undo(), false);
    }

    private static SwallowSurvey withOneDug() {
        SwallowSurvey s = new SwallowSurvey();
        s.swallow(3, 0, 2, 6, 0);
        s.dig(0);
        due("look(9) ahead", s.look(9), 1);
        return s;
    }

    private static void dueForgotten(String by, SwallowSurvey s, boolean forgotten, int pond) {
        due("look(9) behind " + by, s.look(9), forgotten ? 0 : 1);
        due("undo() behind " + by, s.undo(), !forgotten);
        due("of(0, 2) behind " + by, s.of(0, 2), pond);
    }

    private static void undoIsForgotten() {
        sentence("7: a SURVEY, a SPRING and land() forget them");
        SwallowSurvey s = withOneDug();
        s.survey();
        dueForgotten("survey()", s, true, 1);
        s = withOneDug();
        s.spring();
        dueForgotten("spring()", s, true, 1);
        s = withOneDug();
        s.land(6, 6);
        dueForgotten("land()", s, true, 0);
        sentence("29: what can be undone: nothing then");
        s = withOneDug();
        s.image(true);
        s.image(false);
        dueForgotten("image(false)", s, true, 1);
    }

    private static void undoIsNotForgotten() {
        sentence("7: nothing else forgets them");
        SwallowSurvey s = withOneDug();
        s.land(6, 11);
        dueForgotten("land() that can't be", s, false, 0);
        s = withOneDug();
        s.ends(0, 0);
        s.plan(0, 5, 0);
        s.odds(0, 5);
        s.back(0);
        s.part(0, 5);
        dueForgotten("what is in thought", s, false, 0);
        s = withOneDug();
        s.image(false);
        dueForgotten("going back to no image", s, false, 0);
        s = withOneDug();
        s.image(true);
        dueForgotten("taking an image", s, false, 0);
        s = withOneDug();
        s.dig(0);
        s.fill(1);
        s.dig(6);
        s.fill(-1);
        dueForgotten("dig() and fill() that can't be", s, false, 0);
        s = withOneDug();
        s.state(5);
        s.tell(0, 0, 5);
        s.barn(0);
        s.mirror(0, 0, true);
        s.nest(0, 0);
        s.swallow(0, 0, 0, 0, 0);
        habit(s, 0, "left;");
        s.steal(0, 0, 9);
        s.hatch(0, 1, 1);
        s.claim(0, 1, true);
        dueForgotten("all other calls", s, false, 0);
    }

    private static void barns() {
        sentence("8: a BARN at a CELL: false if there is one");
        SwallowSurvey s = onLand(10, 10);
        for (int cell = 0; cell < 100; cell++) {
            due("of(" + cell + ", 3) at first", s.of(cell, 3), 0);
            due("barn(" + cell + ")", s.barn(cell), true);
            due("barn(" + cell + ") again", s.barn(cell), false);
            due("of(" + cell + ", 3)", s.of(cell, 3), 1);
        }
        sentence("8: a BARN that is refused has its MOVES still");
        s = new SwallowSurvey();
        s.barn(5);
        s.survey();
        s.swallow(3, 0, 2, 6, 0);
        s.survey();
        due("MOVES", s.of(5, 7), 1);
        due("barn(5) again", s.barn(5), false);
        due("MOVES stay", s.of(5, 7), 1);
        habit(s, 0, "stop;");
        s.survey();
        due("the next SURVEY is not the first", s.of(5, 7), 2);
    }

    private static void mirrors() {
        sentence("9: a MIRROR is at a POINT or not (none at first), at each POINT, as often as told");
        for (int x = 0; x <= 2; x++) {
            for (int y = 0; y <= 2; y++) {
                SwallowSurvey s = onLand(2, 2);
                habit(s, 0, "left;");
                s.swallow(x, y, 0, 1, 0);
                due("left without", s.ends(0, 3), 3);
                due("mirror(.., false) without", s.mirror(x, y, false), true);
                due("left without", s.ends(0, 3), 3);
                due("mirror(.., true)", s.mirror(x, y, true), true);
                due("mirror(.., true) again", s.mirror(x, y, true), true);
                due("left with", s.ends(0, 3), 1);
                due("mirror(.., false)", s.mirror(x, y, false), true);
                due("left without again", s.ends(0, 3), 3);
                s.mirror((x + 1) % 3, y, true);
                s.mirror(x, (y + 1) % 3, true);
                due("left beside others", s.ends(0, 3), 3);
            }
        }
        sentence("9: at a MIRROR left is right, right is left; ahead, back and stop are as ever");
        int[][] turns = {{1, 3}, {3, 1}, {0, 0}, {2, 2}, {0, 0}};
        String[] words = {"right", "left", "ahead", "back", "stop"};
        for (int i = 0; i < 5; i++) {
            SwallowSurvey s = withHabit(words[i] + ";");
            s.swallow(3, 3, 0, 1, 0);
            due(words[i], s.ends(0, 3), turns[i][0]);
            s.mirror(3, 3, true);
            due(words[i] + " at a MIRROR", s.ends(0, 3), turns[i][1]);
            due("STEPS of " + words[i], s.ends(0, 2), i == 4 ? 0 : 1);
        }
    }

    /** A swallow at each POINT of a land with MIRRORS at all others, then with one at its own. */
    private static void mirrorsOfLands() {
        sentence("9: a MIRROR is at its POINT and at no other");
        for (int[] land : new int[][] {{10, 10}, {2, 10}, {10, 2}, {3, 7}}) {
            int row = land[0] + 1;
            for (int at = 0; at < row * (land[1] + 1); at++) {
                SwallowSurvey s = onLand(land[0], land[1]);
                habit(s, 0, "left;");
                s.swallow(at % row, at / row, 0, 1, 0);
                for (int other = 0; other < row * (land[1] + 1); other++) {
                    if (other != at) {
                        due("a MIRROR elsewhere", s.mirror(other % row, other / row, true), true);
                    }
                }
                String point = "(" + at % row + ", " + at / row + ")";
                due("left with none at " + point, s.ends(0, 3), 3);
                s.mirror(at % row, at / row, true);
                due("left with one at " + point, s.ends(0, 3), 1);
            }
        }
    }

    private static void mirrorsOfALandToldAnew() {
        sentence("3: no MIRROR is on a land told anew");
        for (int i = 0; i < 9; i++) {
            SwallowSurvey s = onLand(2, 2);
            s.mirror(i % 3, i / 3, true);
            s.land(2, 2);
            habit(s, 0, "left;");
            s.swallow(i % 3, i / 3, 0, 1, 0);
            due("left", s.ends(0, 3), 3);
        }
    }

    private static void nests() {
        sentence("10: NESTS 0 .. 5 as they come; NONE if one can't be, or there are six");
        SwallowSurvey s = new SwallowSurvey();
        int[][] points = {{0, 0}, {6, 6}, {0, 6}, {6, 0}, {6, 0}, {3, 3}};
        for (int i = 0; i < 6; i++) {
            due("nest(-1, 3)", s.nest(-1, 3), NONE);
            due("nest(7, 3)", s.nest(7, 3), NONE);
            due("nest(3, -1)", s.nest(3, -1), NONE);
            due("nest(3, 7)", s.nest(3, 7), NONE);
            due("look(5) behind what can't be", s.look(5), i);
            due("nest " + i, s.nest(points[i][0], points[i][1]), i);
            due("look(5)", s.look(5), i + 1);
        }
        due("the seventh", s.nest(1, 1), NONE);
        due("the eighth", s.nest(0, 0), NONE);
        due("look(5)", s.look(5), 6);
        // SUITS at (1, 1): were the seventh there, it would be nearest.
        s.swallow(1, 0, 2, 3, 0);
        s.swallow(0, 1, 1, 1, 0);
        s.survey();
        due("the seventh judges nothing", s.suit(0, 5), 0);
    }

    private static void swallowsAtBounds() {
        sentence("11: a SWALLOW: a POINT, a HEADING 0 .. 3, a LENGTH 0 .. 60, a HABIT 0 .. 3");
        for (int heading = 0; heading < 4; heading++) {
            SwallowSurvey s = new SwallowSurvey();
            due("HEADING " + heading, s.swallow(3, 3, heading, 1, 0), 0);
            int x = heading == 1 ? 4 : heading == 3 ? 2 : 3;
            int y = heading == 0 ? 2 : heading == 2 ? 4 : 3;
            dueEnd(s, 0, x, y, 1, heading);
        }
        for (int length : new int[] {0, 1, 59, 60}) {
            SwallowSurvey s = withHabit("back when step>0;");
            due("LENGTH " + length, s.swallow(3, 3, 1, length, 0), 0);
            due("STEPS of LENGTH " + length, s.ends(0, 2), length);
        }
        for (int habit = 0; habit < 4; habit++) {
            SwallowSurvey s = new SwallowSurvey();
            habit(s, habit, "stop;");
            due("HABIT " + habit, s.swallow(3, 3, 1, 3, habit), 0);
            due("STEPS of HABIT " + habit, s.ends(0, 2), 0);
            s.swallow(3, 3, 1, 3, (habit + 1) % 4);
            due("STEPS of another HABIT", s.ends(1, 2), 3);
        }
    }

    private static void swallowsBeyondBounds() {
        sentence("11: NONE if one can't be: each number by itself beyond its bound");
        SwallowSurvey s = new SwallowSurvey();
        int[] good = {6, 6, 3, 60, 3};
        int[] most = {6, 6, 3, 60, 3};
        for (int which = 0; which < 5; which++) {
            for (int v : beyond(0, most[which])) {
                int[] a = good.clone();
                a[which] = v;
                due("swallow" + java.util.Arrays.toString(a), s.swallow(a[0], a[1], a[2], a[3], a[4]), NONE);
                due("look(4)", s.look(4), 0);
            }
        }
        due("the good one is the first", s.swallow(6, 6, 3, 60, 3), 0);
        due("the least one is the second", s.swallow(0, 0, 0, 0, 0), 1);
    }

    private static void eightSwallows() {
        sentence("11: SWALLOWS 0 .. 7 as they come; NONE if there are eight");
        SwallowSurvey s = new SwallowSurvey();
        for (int i = 0; i < 8; i++) {
            due("ends(" + i + ", 0) ahead", s.ends(i, 0), NONE);
            due("swallow " + i, s.swallow(i % 7, i / 7, 2, i, 0), i);
            due("look(4)", s.look(4), i + 1);
        }
        due("the ninth", s.swallow(0, 0, 2, 1, 0), NONE);
        due("the tenth", s.swallow(1, 1, 1, 1, 1), NONE);
        due("look(4)", s.look(4), 8);
        due("ends(8, 0)", s.ends(8, 0), NONE);
        dueEnd(s, 7, 0, 6, 5, 2);
        dueEnd(s, 6, 6, 6, 6, 2);
        due("steal(8, 0, 1)", s.steal(8, 0, 1), NONE);
        due("steal(7, 0, 1)", s.steal(7, 0, 1), 0);
    }
}
