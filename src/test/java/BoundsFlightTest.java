/** Boundary cases of promises 16 to 22 and of flights, SURVEYS, COUNTIES and SUITS in part 2 of 'Terms'. */
public final class BoundsFlightTest extends Checks {
    private static final int[] DX = {0, 1, 0, -1};
    private static final int[] DY = {-1, 0, 1, 0};

    public static void main(String[] args) {
        noThread();
        threadIsAskedFirst();
        noPointAhead();
        turnsOffTheLand();
        stopTurnsNothing();
        whatIsSeenAtEachPoint();
        threadOnTheYardAhead();
        stepRestSwallow();
        whoseThread();
        ownThreadAgain();
        ninetyNineSuits();
        flightsGoOnWithoutSuits();
        suitsOfSeveral();
        noSuits();
        cats();
        catsAndSuits();
        surveyClears();
        surveyByNumber();
        countiesOfTheLeastLand();
        countiesOfTheLargestLand();
        moves();
        movesOfALateBarn();
        movesAndThefts();
        springOrder();
        springAheadOfSurvey();
        years();
        ofAnother();
        yardAtTheRim();
        yardOfAnother();
        eachYardByItself();
        suitOfAnother();
        judges();
        steal();
        stealBeyond();
        endsOfAnother();
        endsStayInThought();
        finish();
    }

    private static void noThread() {
        sentence("Terms 2: LENGTH 0 of thread: the FLIGHT ends ahead of the HABIT");
        for (int heading = 0; heading < 4; heading++) {
            SwallowSurvey s = withHabit("left;");
            s.swallow(3, 3, heading, 0, 0);
            dueEnd(s, 0, 3, 3, 0, heading);
            due("survey()", s.survey(), 1);
            due("no YARD has thread", s.look(8), 0);
            due("no SUIT", s.look(7), 0);
        }
    }

    private static void threadIsAskedFirst() {
        sentence("Terms 2: no thread left: asked first, ahead of the HABIT");
        for (int length = 1; length <= 4; length++) {
            SwallowSurvey s = withHabit("right when step=" + length + ";");
            s.swallow(1, 1, 1, length, 0);
            dueEnd(s, 0, 1 + length, 1, length, 1);
            s.swallow(1, 1, 1, length + 1, 0);
            dueEnd(s, 1, 1 + length, 2, length + 1, 2);
        }
        SwallowSurvey s = withHabit("back when rest=0;");
        s.swallow(0, 0, 1, 3, 0);
        dueEnd(s, 0, 3, 0, 3, 1);
        s = withHabit("back when step>0;");
        s.swallow(3, 3, 1, 60, 0);
        dueEnd(s, 0, 3, 3, 60, 3);
        s.swallow(3, 3, 1, 59, 0);
        dueEnd(s, 1, 4, 3, 59, 1);
    }

    private static void noPointAhead() {
        sentence("Terms 2: no POINT by the new HEADING: the FLIGHT ends");
        for (int side : new int[] {2, 6, 10}) {
            SwallowSurvey s = onLand(side, side);
            int far = side - 1;
            s.swallow(1, 1, 0, 60, 0);
            s.swallow(1, 1, 1, 60, 0);
            s.swallow(1, 1, 2, 60, 0);
            s.swallow(1, 1, 3, 60, 0);
            dueEnd(s, 0, 1, 0, 1, 0);
            dueEnd(s, 1, side, 1, far, 1);
            dueEnd(s, 2, 1, side, far, 2);
            dueEnd(s, 3, 0, 1, 1, 3);
            s.swallow(0, 0, 0, 60, 0);
            s.swallow(side, 0, 1, 60, 0);
            s.swallow(side, side, 2, 60, 0);
            s.swallow(0, side, 3, 60, 0);
            dueEnd(s, 4, 0, 0, 0, 0);
            dueEnd(s, 5, side, 0, 0, 1);
            dueEnd(s, 6, side, side, 0, 2);
            dueEnd(s, 7, 0, side, 0, 3);
            s.survey();
            due("YARDS with thread", s.look(8), 2 * side);
        }
    }

    private static void turnsOffTheLand() {
        sentence("22: HEADING (that to which it turned last), though there is no POINT by it");
        SwallowSurvey s = withHabit("left when step=1;");
        s.swallow(0, 3, 0, 9, 0);
        dueEnd(s, 0, 0, 2, 1, 3);
        s.swallow(6, 3, 2, 9, 0);
        dueEnd(s, 1, 6, 4, 1, 1);
        s = withHabit("left;");
        s.swallow(0, 3, 0, 9, 0);
        dueEnd(s, 0, 0, 3, 0, 3);
        s = withHabit("back when rim=0;");
        s.swallow(0, 3, 1, 9, 0);
        dueEnd(s, 0, 0, 3, 0, 3);
    }

    private static void stopTurnsNothing() {
        sentence("22: stop ends the FLIGHT; the HEADING is that to which it turned last");
        SwallowSurvey s = withHabit("stop when step=0;left;");
        s.swallow(3, 3, 2, 9, 0);
        dueEnd(s, 0, 3, 3, 0, 2);
        s = withHabit("stop when step=1;left;");
        s.swallow(3, 3, 2, 9, 0);
        dueEnd(s, 0, 4, 3, 1, 1);
        s.mirror(4, 3, true);
        dueEnd(s, 0, 4, 3, 1, 1);
    }

    private static int fliesAt(int w, int h, int x, int y) {
        return x < 0 || y < 0 || x >= w || y >= h ? 0 : 40 + 10 * y + x;
    }

    /** Every POINT and HEADING of a land of three by two: CELLS, or none, left and right of the YARD ahead. */
    private static void whatIsSeenAtEachPoint() {
        sentence("Terms 2: fl, fr, pl, pr (0 if there is none), rim (then there is no CELL, no thread)");
        int w = 3;
        int h = 2;
        for (int i = 0; i < (w + 1) * (h + 1) * 4; i++) {
            int heading = i % 4;
            int x = i / 4 % (w + 1);
            int y = i / 4 / (w + 1);
            // The lesser end of the YARD ahead, then the CELLS above and below it, or left and right of it.
            int leastX = heading == 3 ? x - 1 : x;
            int leastY = heading == 0 ? y - 1 : y;
            boolean across = heading % 2 == 1;
            int one = fliesAt(w, h, across ? leastX : leastX - 1, across ? leastY - 1 : leastY);
            int other = fliesAt(w, h, leastX, leastY);
            boolean oneIsLeft = heading < 2;
            int left = oneIsLeft ? one : other;
            int right = oneIsLeft ? other : one;
            int toX = x + DX[heading];
            int toY = y + DY[heading];
            boolean rim = toX < 0 || toY < 0 || toX > w || toY > h;
            dueSeen(x, y, heading, "fl=" + left + " and fr=" + right + " and rim=" + (rim ? 1 : 0)
                    + " and pl=0 and pr=0 and thread=0", false);
            dueSeen(x, y, heading, "pl=" + (left > 0 ? 1 : 0) + " and pr=" + (right > 0 ? 1 : 0), true);
        }
    }

    private static void dueSeen(int x, int y, int heading, String when, boolean ponds) {
        SwallowSurvey s = onLand(3, 2);
        habit(s, 0, "back when " + when + ";");
        for (int cell : new int[] {0, 1, 2, 10, 11, 12}) {
            s.tell(cell, 0, 40 + cell);
            if (ponds) {
                s.dig(cell);
            }
        }
        s.swallow(x, y, heading, 1, 0);
        due(when + " at (" + x + ", " + y + ") by " + heading, s.ends(0, 3), (heading + 2) % 4);
    }

    private static void threadOnTheYardAhead() {
        sentence("Terms 2: thread: 1, if there is a thread on the YARD ahead (ahead of turning), else 0");
        SwallowSurvey s = new SwallowSurvey();
        habit(s, 1, "stop when thread=1;");
        s.swallow(3, 2, 2, 2, 0);
        s.swallow(3, 0, 2, 6, 1);
        dueEnd(s, 1, 3, 2, 2, 2);
        s.swallow(3, 6, 0, 6, 1);
        dueEnd(s, 2, 3, 4, 2, 0);
        s.swallow(1, 3, 1, 4, 1);
        dueEnd(s, 3, 5, 3, 4, 1);
        sentence("Terms 2: thread: its own counts too");
        s = withHabit("stop when thread=1;right when step=3 or step=4 or step=8 or step=9;");
        s.swallow(2, 4, 0, 60, 0);
        dueEnd(s, 0, 2, 4, 10, 0);
        sentence("Terms 2: thread: not that which a swallow of a higher number would leave");
        s = withHabit("stop when thread=1;");
        s.swallow(3, 0, 2, 6, 0);
        s.swallow(3, 0, 2, 6, 1);
        s.survey();
        dueEnd(s, 0, 3, 6, 6, 2);
    }

    private static void stepRestSwallow() {
        sentence("Terms 2: step: STEPS made; rest: thread that is left; swallow: its number");
        for (int i = 0; i < 6; i++) {
            SwallowSurvey s = withHabit("stop when step=" + i + ";");
            s.swallow(0, 0, 1, 6, 0);
            due("STEPS by step=" + i, s.ends(0, 2), i);
            s = withHabit("stop when rest=" + (6 - i) + ";");
            s.swallow(0, 0, 1, 6, 0);
            due("STEPS by rest=" + (6 - i), s.ends(0, 2), i);
        }
        SwallowSurvey s = withHabit("back when step>0 and not rest=60-step;stop when step=59 and rest=1;back when step>0;");
        s.swallow(0, 0, 1, 60, 0);
        due("STEPS made and thread left are 60", s.ends(0, 2), 59);
        s = withHabit("stop when step=swallow;");
        for (int i = 0; i < 8; i++) {
            s.swallow(0, 0, 1 + i % 2, 60, 0);
        }
        for (int i = 0; i < 8; i++) {
            due("STEPS of swallow " + i, s.ends(i, 2), Math.min(i, 6));
        }
    }

    private static void whoseThread() {
        sentence("Terms 2: its own on a YARD without thread, of this STEP (0 first); on another's none");
        SwallowSurvey s = new SwallowSurvey();
        s.swallow(2, 3, 1, 2, 0);
        s.swallow(0, 3, 1, 6, 0);
        s.survey();
        int[] who = {1, 1, 0, 0, 1, 1};
        int[] step = {0, 1, 0, 1, 4, 5};
        for (int x = 0; x < 6; x++) {
            due("whose at " + x, s.yard(x, 3, 1, 0), who[x]);
            due("of which STEP at " + x, s.yard(x, 3, 1, 1), step[x]);
        }
        due("YARDS with thread", s.look(8), 6);
        sentence("Terms 2: its thread is one less in any case");
        s.swallow(0, 3, 1, 3, 0);
        dueEnd(s, 2, 3, 3, 3, 1);
        s.survey();
        due("YARDS with thread", s.look(8), 6);
    }

    private static void ownThreadAgain() {
        sentence("Terms 2: on its own thread it leaves nothing: the YARD is of the first STEP, and there is no SUIT");
        SwallowSurvey s = withHabit("back when step>0;");
        s.swallow(3, 3, 1, 60, 0);
        s.survey();
        due("of which STEP", s.yard(3, 3, 1, 1), 0);
        due("YARDS", s.look(8), 1);
        due("SUITS", s.look(7), 0);
        due("STOLEN of a later STEP", s.steal(0, 1, 60), 0);
        due("STOLEN of the first", s.steal(0, 0, 0), 1);
    }

    /** Swallows that go to and fro on the YARD of the first: as many SUITS as STEPS. */
    private static SwallowSurvey withSuits(int suits) {
        SwallowSurvey s = withHabit("back when step>0;");
        s.swallow(2, 2, 1, 1, 0);
        for (int left = suits; left > 0; left -= 60) {
            s.swallow(2, 2, 1, Math.min(left, 60), 0);
        }
        s.survey();
        return s;
    }

    private static void ninetyNineSuits() {
        sentence("Terms 2: 99 SUITS in all");
        for (int suits : new int[] {0, 1, 60, 97, 98, 99, 100, 101, 180, 240}) {
            SwallowSurvey s = withSuits(suits);
            int due = Math.min(suits, 99);
            due("SUITS of " + suits, s.look(7), due);
            for (int what = 0; what < 6; what++) {
                due("suit(" + due + ", " + what + ")", s.suit(due, what), NONE);
                due("suit(99, " + what + ")", s.suit(99, what), NONE);
                due("suit(100, " + what + ")", s.suit(100, what), NONE);
            }
            if (due > 0) {
                int last = due - 1;
                due("who", s.suit(last, 0), 1 + last / 60);
                due("the other", s.suit(last, 1), 0);
                due("the STEP", s.suit(last, 4), last % 60);
                due("x", s.suit(last, 2), last % 60 % 2 == 0 ? 3 : 2);
                due("y", s.suit(last, 3), 2);
            }
        }
    }

    private static void flightsGoOnWithoutSuits() {
        sentence("Terms 2: with 99 SUITS flights go on, and the next SURVEY begins anew");
        SwallowSurvey s = withSuits(120);
        habit(s, 1, "");
        s.swallow(0, 2, 1, 6, 1);
        due("COUNTIES", s.survey(), 2);
        due("SUITS", s.look(7), 99);
        due("whose", s.yard(5, 2, 1, 0), 3);
        dueEnd(s, 3, 6, 2, 6, 1);
        habit(s, 0, "stop when swallow=1;back when step>0;");
        s.survey();
        due("SUITS of the other swallow, and of the last", s.look(7), 60 + 2);
        due("the first is of the other swallow", s.suit(0, 0) * 100 + s.suit(0, 4), 200);
        due("the last", s.suit(61, 0) * 100 + s.suit(61, 4), 302);
    }

    private static void suitsOfSeveral() {
        sentence("Terms 2: a SUIT: who it is, that other one (of several the least), the POINT, the STEP");
        SwallowSurvey s = new SwallowSurvey();
        s.swallow(5, 5, 0, 0, 0);
        s.swallow(3, 0, 2, 3, 0);
        s.swallow(3, 6, 0, 3, 0);
        s.swallow(6, 3, 3, 3, 0);
        s.swallow(0, 3, 1, 3, 0);
        s.survey();
        due("SUITS", s.look(7), 3);
        int[][] suits = {{2, 1, 3, 3, 2, NONE}, {3, 1, 3, 3, 2, NONE}, {4, 1, 3, 3, 2, NONE}};
        for (int i = 0; i < 3; i++) {
            for (int what = 0; what < 6; what++) {
                due("suit(" + i + ", " + what + ")", s.suit(i, what), suits[i][what]);
            }
        }
        // The one that is least lies by each HEADING in turn.
        int[][] starts = {{3, 0, 2}, {6, 3, 3}, {3, 6, 0}, {0, 3, 1}};
        for (int turn = 0; turn < 4; turn++) {
            s = new SwallowSurvey();
            for (int i = 0; i < 4; i++) {
                int[] start = starts[(i + turn) % 4];
                s.swallow(start[0], start[1], start[2], 3, 0);
            }
            for (int[] start : starts) {
                s.swallow(start[0], start[1], start[2], 3, 0);
            }
            s.survey();
            due("SUITS", s.look(7), 3 + 4 * 3);
            for (int i = 0; i < 3; i++) {
                due("the other of " + (i + 1), s.suit(i, 0) * 10 + s.suit(i, 1), 10 * (i + 1));
            }
            for (int i = 0; i < 4; i++) {
                due("the least of four", s.suit(5 + 3 * i, 0) * 10 + s.suit(5 + 3 * i, 1), 40 + 10 * i);
                due("one alone, ahead of it", s.suit(3 + 3 * i, 1), (i - turn + 4) % 4);
            }
        }
        s = new SwallowSurvey();
        s.land(10, 10);
        s.swallow(10, 9, 2, 1, 0);
        s.swallow(9, 10, 1, 1, 0);
        s.survey();
        due("a SUIT at the corner", s.suit(0, 2) * 100 + s.suit(0, 3), 1010);
        s = new SwallowSurvey();
        s.swallow(0, 1, 0, 1, 0);
        s.swallow(1, 0, 3, 1, 0);
        s.survey();
        due("a SUIT at the first POINT", s.suit(0, 2) * 100 + s.suit(0, 3), 0);
        due("its STEP", s.suit(0, 4), 0);
    }

    private static void noSuits() {
        sentence("Terms 2: no SUIT at the POINT where it begins, nor with its own thread alone");
        SwallowSurvey s = withHabit("right;");
        s.swallow(3, 0, 2, 6, 1);
        s.swallow(3, 3, 0, 1, 0);
        s.survey();
        due("it begins on a thread", s.look(7), 0);
        s.swallow(5, 5, 3, 0, 0);
        s.survey();
        due("it doesn't move", s.look(7), 0);
        s = withHabit("right;");
        s.swallow(3, 3, 0, 60, 0);
        s.survey();
        due("it comes to its own thread", s.look(7), 0);
        sentence("Terms 2: a SUIT where threads touch at a POINT alone");
        s = new SwallowSurvey();
        s.swallow(2, 2, 0, 1, 0);
        s.swallow(1, 2, 1, 1, 0);
        s.swallow(4, 2, 3, 1, 0);
        s.survey();
        due("SUITS", s.look(7), 1);
        due("who", s.suit(0, 0) * 10 + s.suit(0, 1), 10);
    }

    private static void cats() {
        sentence("Terms 2: if a CELL at that POINT has a CAT, the FLIGHT ends");
        int[][] points = {{2, 2}, {3, 2}, {2, 3}, {3, 3}};
        for (int x = 0; x <= 6; x++) {
            for (int y = 0; y <= 6; y++) {
                boolean touches = false;
                for (int[] point : points) {
                    touches |= point[0] == x && point[1] == y;
                }
                SwallowSurvey s = new SwallowSurvey();
                s.tell(22, 2, 1);
                // It comes to the POINT by its first STEP and would go on.
                int heading = x > 0 ? 1 : 0;
                int startX = x > 0 ? x - 1 : x;
                int startY = x > 0 ? y : Math.min(y + 1, 6);
                s.swallow(startX, startY, heading, 60, 0);
                boolean moves = x > 0 || y < 6;
                int steps = !moves ? 6 : touches ? 1 : stepsOn(startX, startY, heading, points);
                due("STEPS to (" + x + ", " + y + ")", s.ends(0, 2), steps);
            }
        }
        SwallowSurvey s = new SwallowSurvey();
        s.tell(22, 2, 1);
        s.swallow(2, 2, 0, 60, 0);
        dueEnd(s, 0, 2, 0, 2, 0);
        s.swallow(2, 2, 1, 60, 0);
        dueEnd(s, 1, 3, 2, 1, 1);
        s.swallow(2, 2, 1, 0, 0);
        dueEnd(s, 2, 2, 2, 0, 1);
        s.tell(22, 2, 0);
        dueEnd(s, 1, 6, 2, 4, 1);
        for (int corner : new int[] {0, 5, 50, 55}) {
            s = new SwallowSurvey();
            s.tell(corner, 2, 1);
            s.swallow(corner % 10 == 0 ? 2 : 4, corner < 10 ? 0 : 6, corner % 10 == 0 ? 3 : 1, 60, 0);
            due("a CAT in the corner", s.ends(0, 2), 1);
        }
    }

    private static int stepsOn(int startX, int startY, int heading, int[][] points) {
        int x = startX;
        int y = startY;
        for (int steps = 0; steps < 60; steps++) {
            x += DX[heading];
            y += DY[heading];
            if (x > 6 || y < 0) {
                return steps;
            }
            for (int[] point : points) {
                if (point[0] == x && point[1] == y) {
                    return steps + 1;
                }
            }
        }
        return 60;
    }

    private static void catsAndSuits() {
        sentence("Terms 2: thread and SUIT come ahead of the CAT");
        SwallowSurvey s = new SwallowSurvey();
        s.swallow(4, 2, 3, 1, 0);
        s.swallow(0, 2, 1, 6, 0);
        s.tell(23, 2, 1);
        s.survey();
        due("thread up to the CAT", s.yard(2, 2, 1, 0), 1);
        due("none beyond", s.yard(3, 2, 1, 0), 0);
        due("SUITS", s.look(7), 1);
        due("at the CAT", s.suit(0, 2) * 10 + s.suit(0, 3), 32);
        due("the STEP", s.suit(0, 4), 2);
    }

    private static void surveyClears() {
        sentence("16: a SURVEY: all threads and SUITS go, then all swallows fly");
        SwallowSurvey s = new SwallowSurvey();
        s.swallow(3, 0, 2, 6, 0);
        s.swallow(0, 3, 1, 6, 0);
        due("survey()", s.survey(), 4);
        due("survey() again", s.survey(), 4);
        due("SUITS", s.look(7), 1);
        due("YARDS", s.look(8), 12);
        habit(s, 0, "stop;");
        due("threads lie until then", s.look(8), 12);
        due("survey() without flights", s.survey(), 1);
        due("SUITS", s.look(7), 0);
        due("YARDS", s.look(8), 0);
        due("yard(3, 0, 2, 1)", s.yard(3, 0, 2, 1), NONE);
        s = new SwallowSurvey();
        due("survey() without swallows", s.survey(), 1);
    }

    private static void surveyByNumber() {
        sentence("16: all swallows fly, by number");
        SwallowSurvey s = new SwallowSurvey();
        for (int i = 0; i < 8; i++) {
            s.swallow(i % 2 * 6, 3, i % 2 == 0 ? 1 : 3, 6, 0);
        }
        s.survey();
        for (int x = 0; x < 6; x++) {
            due("the first's thread", s.yard(x, 3, 1, 0), 0);
        }
        due("SUITS of the others", s.look(7), 42);
        for (int i = 0; i < 42; i++) {
            due("who", s.suit(i, 0), 1 + i / 6);
        }
    }

    private static void countiesOfTheLeastLand() {
        sentence("16, 18: COUNTIES of a land of two by two");
        SwallowSurvey s = onLand(2, 2);
        due("one", s.survey(), 1);
        for (int cell : new int[] {0, 1, 10, 11}) {
            due("name", s.of(cell, 5), 0);
            due("CELLS", s.of(cell, 6), 4);
        }
        s.swallow(1, 0, 2, 1, 0);
        due("one YARD parts nothing", s.survey(), 1);
        s.swallow(1, 2, 0, 1, 0);
        due("two", s.survey(), 2);
        due("names", s.of(0, 5) + s.of(10, 5), 0);
        due("names", s.of(1, 5) + s.of(11, 5), 2);
        s.swallow(0, 1, 1, 1, 0);
        due("three", s.survey(), 3);
        due("CELLS", s.of(0, 6) * 100 + s.of(10, 6) * 10 + s.of(1, 6), 112);
        s.swallow(2, 1, 3, 1, 0);
        due("four", s.survey(), 4);
        for (int cell : new int[] {0, 1, 10, 11}) {
            due("name", s.of(cell, 5), cell);
            due("CELLS", s.of(cell, 6), 1);
        }
        sentence("16: threads at the rim part nothing");
        s = onLand(2, 2);
        habit(s, 0, "right when rim=1;");
        s.swallow(0, 0, 1, 60, 0);
        due("round the land", s.survey(), 1);
        due("YARDS", s.look(8), 8);
    }

    private static final String DOWN_AND_UP = "left when step-step/11*11=10 and step/11-step/22*2=0;"
            + "left when step-step/11*11=0 and step/11-step/22*2=1;right when step-step/11*11=10;"
            + "right when step-step/11*11=0 and step>0;";

    private static void countiesOfTheLargestLand() {
        sentence("16, 18: COUNTIES of a land of ten by ten: one of 100 CELLS, or 100 of one");
        SwallowSurvey s = onLand(10, 10);
        due("one", s.survey(), 1);
        due("name of the last", s.of(99, 5), 0);
        due("CELLS of the last", s.of(99, 6), 100);
        // To and fro over the land, line by line, at last with a thread on every YARD between two CELLS.
        due("lines", habit(s, 0, DOWN_AND_UP), 4);
        habit(s, 1, DOWN_AND_UP.replace("left", "?").replace("right", "left").replace("?", "right"));
        s.swallow(1, 0, 2, 60, 0);
        s.swallow(6, 0, 2, 43, 0);
        due("ten stripes", s.survey(), 10);
        due("name of a stripe", s.of(97, 5), 7);
        due("CELLS of a stripe", s.of(97, 6), 10);
        s.swallow(0, 1, 1, 60, 1);
        s.swallow(0, 6, 1, 43, 1);
        due("each CELL by itself", s.survey(), 100);
        due("look(6)", s.look(6), 100);
        for (int cell = 0; cell < 100; cell++) {
            due("name of " + cell, s.of(cell, 5), cell);
            due("CELLS of " + cell, s.of(cell, 6), 1);
        }
        due("part(0, 99)", s.part(0, 99), 0);
        due("part(44, 45)", s.part(44, 45), 0);
    }

    private static SwallowSurvey withAThreadThatComesAndGoes() {
        SwallowSurvey s = new SwallowSurvey();
        s.swallow(3, 0, 2, 6, 0);
        return s;
    }

    private static int surveyWith(SwallowSurvey s, boolean thread) {
        habit(s, 0, thread ? "" : "stop;");
        return s.survey();
    }

    private static void moves() {
        sentence("18: MOVES: how often a COUNTY's name was another than behind the SURVEY ahead; not for the first");
        SwallowSurvey s = withAThreadThatComesAndGoes();
        s.barn(5);
        s.barn(0);
        due("MOVES at first", s.of(5, 7), 0);
        surveyWith(s, true);
        due("the first since the BARN came", s.of(5, 7), 0);
        boolean[] threads = {true, false, false, true, true, false, true};
        int[] moves = {0, 1, 1, 2, 2, 3, 4};
        for (int i = 0; i < threads.length; i++) {
            surveyWith(s, threads[i]);
            due("MOVES behind SURVEY " + i, s.of(5, 7), moves[i]);
            due("MOVES where the name stays", s.of(0, 7), 0);
            due("MOVES without a BARN", s.of(4, 7), 0);
        }
        habit(s, 0, "stop;");
        s.spring();
        due("MOVES by a SPRING", s.of(5, 7), 5);
        sentence("18: the name alone counts, not which CELLS a COUNTY has");
        s = new SwallowSurvey();
        s.barn(55);
        s.survey();
        s.swallow(0, 1, 1, 1, 0);
        s.swallow(1, 1, 0, 1, 0);
        s.survey();
        due("CELL 0 is alone: another name", s.of(55, 5), 1);
        due("MOVES", s.of(55, 7), 1);
        s.swallow(5, 0, 2, 1, 0);
        s.swallow(6, 1, 3, 1, 0);
        s.survey();
        due("CELL 5 is alone too: the same name", s.of(55, 5) * 100 + s.of(55, 6), 134);
        due("MOVES stay", s.of(55, 7), 1);
    }

    private static void movesOfALateBarn() {
        sentence("18: not counted for the first SURVEY since the BARN came, though there were some ahead of it");
        SwallowSurvey s = withAThreadThatComesAndGoes();
        surveyWith(s, true);
        surveyWith(s, false);
        s.barn(5);
        surveyWith(s, true);
        due("the first", s.of(5, 7), 0);
        surveyWith(s, false);
        due("the second", s.of(5, 7), 1);
        s.barn(4);
        surveyWith(s, true);
        due("a later BARN's first", s.of(4, 7), 0);
        due("the other's third", s.of(5, 7), 2);
        sentence("18: a BARN that comes behind land() begins anew");
        s.land(6, 6);
        due("MOVES at first", s.of(5, 7), 0);
        s.barn(5);
        s.swallow(2, 0, 2, 6, 0);
        s.survey();
        due("its first", s.of(5, 7), 0);
    }

    private static void movesAndThefts() {
        sentence("18: MOVES count names behind SURVEYS, not those behind thefts");
        SwallowSurvey s = withAThreadThatComesAndGoes();
        s.barn(5);
        s.survey();
        s.steal(0, 0, 60);
        due("the name now", s.of(5, 5), 0);
        due("MOVES", s.of(5, 7), 0);
        s.survey();
        due("the name behind the SURVEY", s.of(5, 5), 3);
        due("MOVES", s.of(5, 7), 0);
        s.steal(0, 0, 60);
        surveyWith(s, false);
        due("another one than behind the SURVEY ahead", s.of(5, 7), 1);
    }

    private static void springOrder() {
        sentence("17: a SPRING: for each CELL (y, then x) FLIES is a DRAW");
        for (int[] land : new int[][] {{2, 2}, {10, 2}, {2, 10}, {10, 10}, {3, 4}}) {
            SwallowSurvey s = onLand(land[0], land[1]);
            s.state(4711);
            s.dig(10);
            s.spring();
            long state = 4711;
            for (int y = 0; y < land[1]; y++) {
                for (int x = 0; x < land[0]; x++) {
                    state = (1664525L * state + 1013904223L) & 0xffffffffL;
                    int cell = 10 * y + x;
                    due("FLIES of " + cell, s.of(cell, 0), (state >> 8) % (cell == 10 ? 40 : 10));
                }
            }
            due("STATE", s.look(2), (int) state);
        }
    }

    private static void springAheadOfSurvey() {
        sentence("17: FLIES are drawn ahead of the SURVEY");
        for (int state = 0; state < 20; state++) {
            SwallowSurvey s = onLand(2, 2);
            habit(s, 0, "stop when fr=" + state % 10 + ";");
            s.swallow(1, 0, 2, 2, 0);
            s.state(state * 123456789);
            s.tell(0, 0, state % 10);
            int counties = s.spring();
            // It stops by FLIES of CELL 0, or by those of CELL 10 at its second STEP.
            boolean stops = s.of(0, 0) == state % 10 || s.of(10, 0) == state % 10;
            due("COUNTIES by what was drawn from " + state, counties, stops ? 1 : 2);
            due("look(6)", s.look(6), stops ? 1 : 2);
        }
        sentence("17: FLIES that were told are gone, and STATE goes on");
        SwallowSurvey s = onLand(2, 2);
        s.tell(0, 0, 99);
        s.spring();
        due("FLIES", s.of(0, 0) < 10, true);
    }

    private static void years() {
        sentence("17: YEAR (0 at first, 9999 at most) is one more; NONE, and nothing is done, if it is 9999");
        SwallowSurvey s = onLand(2, 2);
        s.swallow(1, 0, 2, 2, 0);
        due("YEAR at first", s.look(3), 0);
        due("a SURVEY is no YEAR", s.survey() + s.look(3), 2);
        // Calls beyond the 512th: the document names this bound, and no other way leads to it.
        for (int year = 1; year <= 9999; year++) {
            due("spring() " + year, s.spring(), 2);
            due("YEAR", s.look(3), year);
        }
        int state = s.look(2);
        s.dig(0);
        habit(s, 0, "stop;");
        for (int i = 0; i < 3; i++) {
            due("spring() beyond", s.spring(), NONE);
            due("YEAR stays", s.look(3), 9999);
            due("STATE stays", s.look(2), state);
            due("what can be undone stays", s.look(9), 1);
            due("threads stay", s.look(8), 2);
        }
        due("a SURVEY can be", s.survey(), 1);
        s.land(2, 2);
        due("YEAR of a land told anew", s.look(3), 0);
        due("spring() there", s.spring(), 1);
        due("YEAR", s.look(3), 1);
    }

    private static void ofAnother() {
        sentence("18: NONE if there is none such, or another what");
        SwallowSurvey s = Twins.scene();
        for (int what : beyond(0, 8)) {
            for (int cell : new int[] {0, 33, 34, 40, -1}) {
                due("of(" + cell + ", " + what + ")", s.of(cell, what), NONE);
            }
        }
        for (int what = 0; what <= 8; what++) {
            due("of(33, " + what + ") is there", s.of(33, what) != NONE, true);
        }
    }

    private static void yardAtTheRim() {
        sentence("19: the YARD from a POINT by a HEADING; NONE - 1 if there is none such; NONE without thread");
        for (int[] land : new int[][] {{2, 2}, {10, 10}, {2, 10}, {3, 2}}) {
            SwallowSurvey s = null;
            for (int x = -1; x <= land[0] + 1; x++) {
                s = onLand(land[0], land[1]);
                for (int y = -1; y <= land[1] + 1; y++) {
                    for (int heading = 0; heading < 4; heading++) {
                        boolean is = isPoint(land, x, y) && isPoint(land, x + DX[heading], y + DY[heading]);
                        String at = "yard(" + x + ", " + y + ", " + heading + ")";
                        due(at + " whose", s.yard(x, y, heading, 0), is ? NONE : NONE - 1);
                        due(at + " STEP", s.yard(x, y, heading, 1), is ? NONE : NONE - 1);
                    }
                }
            }
        }
    }

    private static boolean isPoint(int[] land, int x, int y) {
        return x >= 0 && y >= 0 && x <= land[0] && y <= land[1];
    }

    private static void yardOfAnother() {
        sentence("19: NONE - 1 for another what, HEADING or POINT");
        SwallowSurvey s = new SwallowSurvey();
        s.swallow(3, 0, 2, 6, 0);
        s.survey();
        for (int v : beyond(0, 1)) {
            due("yard(3, 0, 2, " + v + ")", s.yard(3, 0, 2, v), NONE - 1);
            due("yard(0, 0, 1, " + v + ") without thread", s.yard(0, 0, 1, v), NONE - 1);
        }
        for (int v : beyond(0, 3)) {
            due("yard(3, 3, " + v + ", 0)", s.yard(3, 3, v, 0), NONE - 1);
        }
        for (int v : beyond(0, 6)) {
            for (int heading = 0; heading < 4; heading++) {
                due("yard(" + v + ", 3, " + heading + ", 0)", s.yard(v, 3, heading, 0), NONE - 1);
                due("yard(3, " + v + ", " + heading + ", 1)", s.yard(3, v, heading, 1), NONE - 1);
            }
        }
        due("yard(3, 0, 2, 0)", s.yard(3, 0, 2, 0), 0);
        due("yard(3, 6, 0, 1) from its other end", s.yard(3, 6, 0, 1), 5);
    }

    /** A thread on one YARD is on no other one, whatever the land. */
    private static void eachYardByItself() {
        sentence("19, 21: the YARD from a POINT by a HEADING, and no other");
        for (int[] land : new int[][] {{10, 10}, {2, 2}, {2, 10}, {10, 2}}) {
            int row = land[0] + 1;
            int points = row * (land[1] + 1);
            for (int from = 0; from < points * 2; from++) {
                int heading = 1 + from % 2;
                SwallowSurvey s = onLand(land[0], land[1]);
                s.swallow(from / 2 % row, from / 2 / row, heading, 1, 0);
                s.survey();
                boolean is = isPoint(land, from / 2 % row + DX[heading], from / 2 / row + DY[heading]);
                due("YARDS with thread", s.look(8), is ? 1 : 0);
                for (int other = 0; other < points * 2; other++) {
                    int whose = s.yard(other / 2 % row, other / 2 / row, 1 + other % 2, 0);
                    due("a thread on one YARD alone", whose == 0, is && other == from);
                }
                due("STOLEN", s.steal(0, 0, 0), is ? 1 : 0);
                due("YARDS then", s.look(8), 0);
            }
        }
    }

    private static void suitOfAnother() {
        sentence("20: NONE if there is none such, or another what");
        SwallowSurvey s = withSuits(2);
        s.nest(0, 0);
        for (int what = 0; what < 6; what++) {
            for (int i : beyond(0, 1)) {
                due("suit(" + i + ", " + what + ")", s.suit(i, what), NONE);
            }
            due("suit(0, " + what + ") is there", s.suit(0, what) != NONE, true);
            due("suit(1, " + what + ") is there", s.suit(1, what) != NONE, true);
        }
        for (int what : beyond(0, 5)) {
            due("suit(0, " + what + ")", s.suit(0, what), NONE);
            due("suit(1, " + what + ")", s.suit(1, what), NONE);
        }
        s = new SwallowSurvey();
        for (int what = 0; what < 6; what++) {
            due("suit(0, " + what + ") without SUITS", s.suit(0, what), NONE);
            due("suit(-1, " + what + ") without SUITS", s.suit(-1, what), NONE);
        }
    }

    private static void judges() {
        sentence("20: judged by the NEST whose POINT is nearest (both differences added; of several the least); NONE");
        SwallowSurvey s = onLand(10, 10);
        s.swallow(0, 1, 0, 1, 0);
        s.swallow(1, 0, 3, 1, 0);
        s.survey();
        due("without NESTS", s.suit(0, 5), NONE);
        s.nest(10, 10);
        due("the farthest that can be", s.suit(0, 5), 0);
        s.nest(9, 10);
        due("one nearer", s.suit(0, 5), 1);
        s.nest(10, 9);
        due("of two the least", s.suit(0, 5), 1);
        s.nest(2, 2);
        due("nearer", s.suit(0, 5), 3);
        s.nest(0, 3);
        due("both differences added", s.suit(0, 5), 4);
        s.nest(0, 0);
        due("at the POINT itself", s.suit(0, 5), 5);
        s = onLand(10, 10);
        s.swallow(2, 7, 0, 1, 0);
        s.swallow(1, 7, 1, 1, 0);
        s.survey();
        due("a SUIT at (2, 7)", s.suit(0, 2) * 10 + s.suit(0, 3), 27);
        int[][] aside = {{7, 2}, {7, 7}, {2, 2}, {6, 6}, {0, 9}, {3, 8}};
        int[] nearest = {0, 1, 1, 1, 4, 5};
        for (int i = 0; i < 6; i++) {
            s.nest(aside[i][0], aside[i][1]);
            due("x and y by themselves, with " + (i + 1), s.suit(0, 5), nearest[i]);
        }
        s = onLand(10, 10);
        s.swallow(5, 5, 0, 1, 0);
        s.swallow(4, 5, 1, 1, 0);
        s.survey();
        int[][] nests = {{9, 5}, {5, 8}, {8, 5}, {3, 5}, {5, 3}, {4, 4}};
        int[] judge = {0, 1, 1, 3, 3, 3};
        for (int i = 0; i < 6; i++) {
            s.nest(nests[i][0], nests[i][1]);
            due("on each side, with " + (i + 1), s.suit(0, 5), judge[i]);
        }
    }

    private static void steal() {
        sentence("21: STOLEN: of a swallow's thread the YARDS of the STEPS from .. to: how many");
        int[][] rows = {{0, 0, 1}, {0, 5, 6}, {5, 5, 1}, {0, 6, 6}, {0, MAX, 6}, {5, MAX, 1}, {6, 6, 0}, {6, MAX, 0},
            {MAX, MAX, 0}, {2, 3, 2}, {1, 4, 4}, {0, 60, 6}, {59, 60, 0}};
        for (int[] row : rows) {
            SwallowSurvey s = new SwallowSurvey();
            s.swallow(0, 3, 1, 6, 0);
            s.swallow(3, 0, 2, 6, 0);
            s.survey();
            due("steal(0, " + row[0] + ", " + row[1] + ")", s.steal(0, row[0], row[1]), row[2]);
            for (int x = 0; x < 6; x++) {
                boolean gone = x >= row[0] && x <= row[1];
                due("whose at " + x, s.yard(x, 3, 1, 0), gone ? NONE : 0);
                due("of which STEP at " + x, s.yard(x, 3, 1, 1), gone ? NONE : x);
            }
            due("another's threads stay", s.look(8), 12 - row[2]);
            due("SUITS stay", s.look(7), 1);
            due("steal() again", s.steal(0, row[0], row[1]), 0);
        }
        sentence("21: the last STEP of 60");
        SwallowSurvey s = onLand(10, 10);
        habit(s, 0, DOWN_AND_UP);
        s.swallow(1, 0, 2, 60, 0);
        s.survey();
        due("YARDS", s.look(8), 60);
        due("steal(0, 60, 60)", s.steal(0, 60, 60), 0);
        due("steal(0, 59, 59)", s.steal(0, 59, 59), 1);
        due("steal(0, 0, 59)", s.steal(0, 0, 59), 59);
    }

    private static void stealBeyond() {
        sentence("21: NONE if one can't be (to below from; from below 0), and nothing is stolen");
        SwallowSurvey s = new SwallowSurvey();
        due("steal(0, 0, 0) without swallows", s.steal(0, 0, 0), NONE);
        s.swallow(0, 3, 1, 6, 0);
        s.swallow(3, 0, 2, 6, 0);
        due("steal(0, 0, 0) ahead of a SURVEY", s.steal(0, 0, 0), 0);
        s.survey();
        int[][] rows = {{-1, 0}, {-1, 5}, {-1, -1}, {-2, -1}, {1, 0}, {0, -1}, {5, 4}, {MAX, 0}, {0, MIN}, {MIN, MAX},
            {MIN, MIN}, {MAX, MAX - 1}, {3, MIN}};
        for (int[] row : rows) {
            due("steal(0, " + row[0] + ", " + row[1] + ")", s.steal(0, row[0], row[1]), NONE);
            due("YARDS stay", s.look(8), 12);
        }
        for (int swallow : beyond(0, 1)) {
            due("steal(" + swallow + ", 0, 60)", s.steal(swallow, 0, 60), NONE);
            due("YARDS stay", s.look(8), 12);
        }
        due("steal(1, 0, 60)", s.steal(1, 0, 60), 6);
    }

    private static void endsOfAnother() {
        sentence("22: NONE if one can't be, or another what");
        SwallowSurvey s = new SwallowSurvey();
        for (int what = 0; what < 4; what++) {
            due("ends(0, " + what + ") without swallows", s.ends(0, what), NONE);
        }
        s.swallow(3, 3, 0, 1, 0);
        s.swallow(3, 3, 1, 1, 0);
        for (int swallow : beyond(0, 1)) {
            for (int what = 0; what < 4; what++) {
                due("ends(" + swallow + ", " + what + ")", s.ends(swallow, what), NONE);
            }
        }
        for (int what : beyond(0, 3)) {
            due("ends(0, " + what + ")", s.ends(0, what), NONE);
            due("ends(1, " + what + ")", s.ends(1, what), NONE);
        }
        dueEnd(s, 0, 3, 2, 1, 0);
        dueEnd(s, 1, 4, 3, 1, 1);
    }

    private static void endsStayInThought() {
        sentence("22: END is in thought: a SURVEY as it would be now, from FLIES as they are; nothing stays");
        SwallowSurvey s = withHabit("stop when fl>50;right when thread=1;");
        s.swallow(3, 0, 2, 6, 1);
        s.swallow(3, 2, 2, 2, 0);
        dueEnd(s, 1, 1, 2, 2, 3);
        due("YARDS", s.look(8), 0);
        due("SUITS", s.look(7), 0);
        s.survey();
        s.steal(0, 0, 60);
        dueEnd(s, 1, 1, 2, 2, 3);
        due("what was stolen is still gone", s.look(8), 2);
        s.hatch(23, 99, 10);
        dueEnd(s, 1, 1, 2, 2, 3);
        s.tell(23, 0, 51);
        dueEnd(s, 1, 3, 2, 0, 2);
        s.tell(23, 0, 50);
        dueEnd(s, 1, 1, 2, 2, 3);
    }
}
