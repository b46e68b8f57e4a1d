/** Boundary cases of promises 23 to 30 and of part 3 of 'Terms'. */
public final class BoundsThoughtTest extends Checks {
    private static final int[] NO_LOOKS = {-1, -2, 14, 15, 16, 17, 18, 19, 22, 23, 30, 256, 266, 65536, MIN, MIN + 10,
        MAX};

    public static void main(String[] args) {
        planOnLands();
        planOfAlike();
        planOfAnother();
        planOfNone();
        planAtMostTwo();
        planPrices();
        planLeastPriceFirst();
        planFewestThen();
        planFirstThen();
        planOfDryCells();
        planStaysInThought();
        hatchAtBounds();
        hatchBeyondBounds();
        sixHatchings();
        hatchCellOfItsOwn();
        oddsWithoutHatchings();
        oddsOfSix();
        oddsAtChances();
        oddsBeyond99Flies();
        oddsOfAlike();
        claims();
        twentyClaims();
        backWithoutAny();
        backOfSix();
        backOfNone();
        backOfAnother();
        part();
        partAsThreadsLie();
        partOfAlike();
        noImage();
        imageMoreThanOnce();
        imageOfAll();
        imageOfMirrors();
        imageAndTape();
        look();
        lookOfAnother();
        allCallsOfAnObject();
        finish();
    }

    private static void planOnLands() {
        sentence("23: NONE with more than 36 CELLS");
        for (int w = 2; w <= 10; w++) {
            for (int h = 2; h <= 10; h++) {
                SwallowSurvey s = onLand(w, h);
                boolean can = w * h <= 36;
                due("PRICE on " + w + " by " + h, s.plan(0, 1, 0), can ? 0 : NONE);
                due("PONDS on " + w + " by " + h, s.plan(0, 1, 1), can ? 0 : NONE);
                s.swallow(1, 0, 2, h, 0);
                habit(s, 0, "stop when pl+pr>0 and step=0;");
                for (int what = 0; what < 4; what++) {
                    int due = what < 2 ? 1 : what == 2 ? 0 : NONE;
                    due("plan(0, 1, " + what + ") on " + w + " by " + h, s.plan(0, 1, what), can ? due : NONE);
                }
            }
        }
        sentence("23: the last CELLS of 36 may be dug");
        for (int[] land : new int[][] {{6, 6}, {4, 9}, {9, 4}}) {
            SwallowSurvey s = onLand(land[0], land[1]);
            habit(s, 0, "stop when pl+pr=2 and step=0;");
            s.swallow(land[0] - 1, land[1], 0, land[1], 0);
            int last = 10 * (land[1] - 1) + land[0] - 1;
            duePlan(s, land[0] - 2, land[0] - 1, 2, 2, last - 1, last);
        }
    }

    private static void planOfAlike() {
        sentence("23: NONE if one can't be (alike)");
        SwallowSurvey s = onLand(3, 3);
        for (int cell : new int[] {0, 1, 11, 22}) {
            duePlan(s, cell, cell, NONE, NONE, NONE, NONE);
        }
        for (int cell : new int[] {3, 30, 33, -1, MIN, MAX}) {
            duePlan(s, cell, cell, NONE, NONE, NONE, NONE);
            duePlan(s, cell, 0, NONE, NONE, NONE, NONE);
            duePlan(s, 0, cell, NONE, NONE, NONE, NONE);
        }
    }

    private static void planOfAnother() {
        sentence("23: NONE for another what");
        SwallowSurvey s = threeLines();
        for (int what : beyond(0, 3)) {
            due("plan(0, 1, " + what + ")", s.plan(0, 1, what), NONE);
            due("plan(0, 3, " + what + ") of two", s.plan(0, 3, what), NONE);
            due("plan(0, 10, " + what + ") that is so already", s.plan(0, 10, what), NONE);
        }
    }

    /** A land of six by two in four parts; a POND beside the first YARD of a line opens it. */
    private static SwallowSurvey threeLines() {
        SwallowSurvey s = onLand(6, 2);
        habit(s, 0, "stop when pl+pr>0 and step=0;");
        s.swallow(1, 0, 2, 2, 0);
        s.swallow(3, 0, 2, 2, 0);
        s.swallow(5, 0, 2, 2, 0);
        return s;
    }

    private static void planOfNone() {
        sentence("23: none, if it is so already");
        SwallowSurvey s = threeLines();
        duePlan(s, 1, 2, 0, 0, NONE, NONE);
        duePlan(s, 0, 10, 0, 0, NONE, NONE);
        for (int cell = 0; cell < 6; cell++) {
            s.tell(cell, 1, 0);
        }
        duePlan(s, 1, 2, 0, 0, NONE, NONE);
        duePlan(s, 2, 1, 0, 0, NONE, NONE);
        s.dig(0);
        duePlan(s, 0, 1, 0, 0, NONE, NONE);
        sentence("23: so already in a SURVEY as it would be now, not as threads lie");
        s = threeLines();
        s.survey();
        s.steal(0, 0, 60);
        due("one COUNTY as threads lie", s.of(1, 5), 0);
        duePlan(s, 0, 1, 1, 1, 0, NONE);
    }

    private static void planAtMostTwo() {
        sentence("23: PONDS in at most two CELLS; NONE if there is none");
        SwallowSurvey s = threeLines();
        duePlan(s, 0, 1, 1, 1, 0, NONE);
        duePlan(s, 0, 3, 2, 2, 0, 2);
        duePlan(s, 0, 5, NONE, NONE, NONE, NONE);
        duePlan(s, 5, 0, NONE, NONE, NONE, NONE);
        s.dig(3);
        duePlan(s, 0, 5, 2, 2, 0, 4);
        s.dig(5);
        duePlan(s, 0, 5, 1, 1, 0, NONE);
        s.dig(1);
        duePlan(s, 0, 5, 0, 0, NONE, NONE);
        sentence("23: NONE if no POND helps");
        s = onLand(2, 2);
        s.swallow(1, 0, 2, 2, 0);
        duePlan(s, 0, 1, NONE, NONE, NONE, NONE);
        duePlan(s, 0, 10, 0, 0, NONE, NONE);
    }

    private static void planPrices() {
        sentence("23: PRICES 0 .. 99 of CELLS, 1 at first");
        SwallowSurvey s = threeLines();
        for (int cell = 0; cell < 4; cell++) {
            s.tell(cell, 1, 99);
        }
        duePlan(s, 0, 1, 99, 1, 0, NONE);
        duePlan(s, 0, 3, 198, 2, 0, 2);
        s.tell(1, 1, 98);
        duePlan(s, 0, 1, 98, 1, 1, NONE);
        duePlan(s, 0, 3, 197, 2, 1, 2);
        s.tell(3, 1, 0);
        duePlan(s, 0, 3, 98, 2, 1, 3);
        s.tell(1, 1, 0);
        duePlan(s, 0, 1, 0, 1, 1, NONE);
        duePlan(s, 0, 3, 0, 2, 1, 3);
    }

    /** One POND in CELL 1, or two in 10 and 11, open the line between CELLS 0 and 1; no other two do. */
    private static SwallowSurvey oneOrTwo(int priceOfOne, int price10, int price11) {
        SwallowSurvey s = onLand(2, 2);
        habit(s, 0, "stop when step=0 and (pl=1 and fl+fr=25 or fl=5 and fr=5);");
        s.swallow(1, 0, 2, 2, 0);
        s.tell(1, 1, priceOfOne);
        s.tell(10, 1, price10);
        s.tell(11, 1, price11);
        return s;
    }

    private static void planLeastPriceFirst() {
        sentence("23: at least PRICE together first");
        duePlan(oneOrTwo(6, 2, 3), 0, 1, 5, 2, 10, 11);
        duePlan(oneOrTwo(99, 49, 49), 0, 1, 98, 2, 10, 11);
        duePlan(oneOrTwo(1, 0, 0), 0, 1, 0, 2, 10, 11);
        duePlan(oneOrTwo(4, 2, 3), 0, 1, 4, 1, 1, NONE);
        duePlan(oneOrTwo(99, 99, 99), 0, 1, 99, 1, 1, NONE);
    }

    private static void planFewestThen() {
        sentence("23: then fewest");
        duePlan(oneOrTwo(5, 2, 3), 0, 1, 5, 1, 1, NONE);
        duePlan(oneOrTwo(0, 0, 0), 0, 1, 0, 1, 1, NONE);
        duePlan(oneOrTwo(98, 49, 49), 0, 1, 98, 1, 1, NONE);
        // With all PRICES 0, one that is later in the row is better than two that are ahead of it.
        SwallowSurvey s = onLand(2, 2);
        habit(s, 0, "stop when step=0 and (pl+pr=2 or fl=0 and fr=5);");
        s.swallow(1, 0, 2, 2, 0);
        for (int cell : new int[] {0, 1, 10, 11}) {
            s.tell(cell, 1, 0);
        }
        duePlan(s, 0, 1, 0, 1, 10, NONE);
    }

    private static void planFirstThen() {
        sentence("23: then the first (as the row of CELLS, the lesser first)");
        SwallowSurvey s = threeLines();
        duePlan(s, 0, 1, 1, 1, 0, NONE);
        duePlan(s, 0, 3, 2, 2, 0, 2);
        s.tell(2, 1, 2);
        duePlan(s, 0, 3, 2, 2, 0, 3);
        s.tell(0, 1, 2);
        duePlan(s, 0, 3, 2, 2, 1, 3);
        s.tell(3, 1, 2);
        s.tell(1, 1, 2);
        duePlan(s, 3, 0, 4, 2, 0, 2);
        // FLIES of 5 on both sides: CELLS 10 and 11, or 2 and 10.
        s = onLand(3, 2);
        habit(s, 0, "stop when step=0 and fl=5 and fr=5;");
        s.swallow(1, 0, 2, 2, 0);
        duePlan(s, 0, 1, 2, 2, 2, 10);
        s.tell(2, 1, 2);
        duePlan(s, 0, 1, 2, 2, 10, 11);
        s.tell(11, 1, 2);
        duePlan(s, 0, 1, 3, 2, 2, 10);
    }

    private static void planOfDryCells() {
        sentence("23: CELLS that have none (PONDS)");
        SwallowSurvey s = onLand(2, 2);
        habit(s, 0, "stop when step=0 and pl+pr=2;");
        s.swallow(1, 0, 2, 2, 0);
        duePlan(s, 0, 1, 2, 2, 0, 1);
        s.dig(0);
        duePlan(s, 0, 1, 1, 1, 1, NONE);
        s.dig(1);
        duePlan(s, 0, 1, 0, 0, NONE, NONE);
        s.fill(0);
        duePlan(s, 0, 1, 1, 1, 0, NONE);
        s.dig(0);
        s.dig(10);
        s.dig(11);
        duePlan(s, 0, 1, 0, 0, NONE, NONE);
        habit(s, 0, "");
        duePlan(s, 0, 1, NONE, NONE, NONE, NONE);
        sentence("23: PONDS dug in thought are seen from beside, and those that are there still are");
        s = onLand(2, 2);
        habit(s, 0, "stop when step=0 and fl=30 and fr=25;");
        s.swallow(1, 0, 2, 2, 0);
        s.dig(0);
        duePlan(s, 0, 1, 2, 2, 1, 11);
    }

    private static void planStaysInThought() {
        sentence("23: nothing of a PLAN stays");
        SwallowSurvey s = threeLines();
        s.survey();
        duePlan(s, 0, 3, 2, 2, 0, 2);
        for (int cell : new int[] {0, 1, 2, 3, 4, 5, 10, 11, 12, 13, 14, 15}) {
            due("no POND", s.of(cell, 2), 0);
            due("no FLIES", s.of(cell, 1), 0);
        }
        due("threads lie", s.look(8), 6);
        due("COUNTIES", s.look(6), 4);
        due("nothing to undo", s.look(9), 0);
        due("STEPS", s.ends(0, 2), 2);
        sentence("23: HATCHINGS are not in a PLAN");
        s = onLand(2, 2);
        habit(s, 0, "stop when step=0 and fl>0;");
        s.swallow(1, 0, 2, 2, 0);
        s.hatch(1, 99, 10);
        duePlan(s, 0, 1, 1, 1, 0, NONE);
    }

    private static void hatchAtBounds() {
        sentence("24: a HATCHING: a CELL with FLIES more 0 .. 99, by a chance 0 .. 10");
        int[][] good = {{0, 0, 0}, {1, 99, 10}, {5, 0, 10}, {50, 99, 0}, {55, 1, 1}, {22, 98, 9}};
        SwallowSurvey s = new SwallowSurvey();
        for (int i = 0; i < 6; i++) {
            due("look(20)", s.look(20), i);
            due("hatch " + i, s.hatch(good[i][0], good[i][1], good[i][2]), i);
        }
        due("look(20)", s.look(20), 6);
        due("FLIES are as they were", s.of(1, 0) + s.of(55, 1), 0);
    }

    private static void hatchBeyondBounds() {
        sentence("24: NONE if one can't be: each number by itself beyond its bound");
        SwallowSurvey s = new SwallowSurvey();
        for (int v : beyond(0, 99)) {
            due("hatch(0, " + v + ", 5)", s.hatch(0, v, 5), NONE);
        }
        for (int v : beyond(0, 10)) {
            due("hatch(0, 5, " + v + ")", s.hatch(0, 5, v), NONE);
        }
        for (int v : new int[] {-1, 6, 16, 56, 60, 65, 66, 100, MIN, MAX}) {
            due("hatch(" + v + ", 5, 5)", s.hatch(v, 5, 5), NONE);
        }
        due("look(20)", s.look(20), 0);
        due("of 1", s.odds(0, 1), 1);
        due("the CELL is still free", s.hatch(0, 5, 5), 0);
    }

    private static void sixHatchings() {
        sentence("24: HATCHINGS 0 .. 5 as they come; NONE if there are six");
        SwallowSurvey s = new SwallowSurvey();
        for (int i = 0; i < 6; i++) {
            due("hatch(-1, 1, 1)", s.hatch(-1, 1, 1), NONE);
            due("hatch(" + i + ", 1, 1)", s.hatch(i, 1, 1), i);
        }
        for (int cell : new int[] {10, 55, 0, 5}) {
            due("the seventh, at " + cell, s.hatch(cell, 1, 1), NONE);
        }
        due("look(20)", s.look(20), 6);
        due("of a million", s.odds(0, 1), 1000000);
        due("sets", s.back(0), 64);
    }

    private static void hatchCellOfItsOwn() {
        sentence("24: NONE for a CELL that has one, and that stays as it was");
        SwallowSurvey s = withHabit("stop when fl>0;");
        s.swallow(3, 0, 2, 6, 0);
        due("hatch(3, 7, 4)", s.hatch(3, 7, 4), 0);
        due("hatch(3, 7, 4) again", s.hatch(3, 7, 4), NONE);
        due("hatch(3, 0, 0)", s.hatch(3, 0, 0), NONE);
        due("hatch(3, 99, 10)", s.hatch(3, 99, 10), NONE);
        due("look(20)", s.look(20), 1);
        due("odds(0, 5)", s.odds(0, 5), 4);
        due("hatch(4, 7, 4) beside", s.hatch(4, 7, 4), 1);
        due("hatch(4, 7, 4) again", s.hatch(4, 7, 4), NONE);
        due("hatch(3, 7, 4) again", s.hatch(3, 7, 4), NONE);
        due("hatch(13, 7, 4)", s.hatch(13, 7, 4), 2);
    }

    private static void oddsWithoutHatchings() {
        sentence("25: ODDS: of 10 to the number of HATCHINGS, here of 1");
        SwallowSurvey s = new SwallowSurvey();
        due("in one COUNTY", s.odds(0, 5), 1);
        s.swallow(3, 0, 2, 6, 0);
        due("as a SURVEY would be, not as threads lie", s.odds(0, 5), 0);
        due("on one side", s.odds(0, 2), 1);
        s.survey();
        s.steal(0, 0, 60);
        due("as a SURVEY would be, not as threads lie", s.odds(0, 5), 0);
        due("a CELL with itself", s.odds(0, 0), 1);
    }

    /** A line that any of six HATCHINGS beside it breaks. */
    private static SwallowSurvey lineWithSix(int flies, int... chances) {
        SwallowSurvey s = withHabit("stop when fl>0;");
        s.swallow(3, 0, 2, 6, 0);
        for (int i = 0; i < chances.length; i++) {
            s.hatch(10 * i + 3, flies, chances[i]);
        }
        return s;
    }

    private static void oddsOfSix() {
        sentence("25: ODDS of 10 to the number of HATCHINGS");
        int[] most = {1, 10, 100, 1000, 10000, 100000, 1000000};
        for (int count = 0; count <= 6; count++) {
            int[] chances = new int[count];
            java.util.Arrays.fill(chances, 1);
            SwallowSurvey s = lineWithSix(1, chances);
            due("with " + count, s.odds(0, 5), most[count] - Math.round(Math.pow(9, count)));
            due("with " + count + ", surely", s.odds(0, 2), most[count]);
            chances = new int[count];
            java.util.Arrays.fill(chances, 10);
            due("with " + count + " of chance 10", lineWithSix(1, chances).odds(0, 5), count == 0 ? 0 : most[count]);
        }
        due("each by its own chance", lineWithSix(1, 1, 2, 3, 4, 5, 6).odds(0, 5), 1000000 - 9 * 8 * 7 * 6 * 5 * 4);
    }

    private static void oddsAtChances() {
        sentence("25: a chance 0 .. 10 of ten, with 0 .. 99 FLIES more");
        for (int chance = 0; chance <= 10; chance++) {
            due("chance " + chance, lineWithSix(1, chance).odds(0, 5), chance);
            due("chance " + chance + " of 99", lineWithSix(99, chance).odds(5, 0), chance);
            due("chance " + chance + " of no FLIES", lineWithSix(0, chance).odds(0, 5), 0);
            due("the other side", lineWithSix(1, chance).odds(0, 2), 10);
        }
        due("chance 0 six times", lineWithSix(99, 0, 0, 0, 0, 0, 0).odds(0, 5), 0);
        due("chance 10 once of six", lineWithSix(99, 0, 0, 10, 0, 0, 0).odds(0, 5), 1000000);
    }

    private static void oddsBeyond99Flies() {
        sentence("25: so many FLIES more, on FLIES as they are");
        SwallowSurvey s = withHabit("stop when fl=198;");
        s.swallow(3, 0, 2, 6, 0);
        s.hatch(3, 99, 3);
        due("on no FLIES", s.odds(0, 5), 0);
        s.tell(3, 0, 99);
        due("on 99", s.odds(0, 5), 3);
        due("FLIES stay", s.of(3, 0), 99);
        s.tell(3, 0, 98);
        due("on 98", s.odds(0, 5), 0);
        s.dig(4);
        habit(s, 0, "stop when fl=202;");
        due("and a POND beside", s.odds(0, 5), 3);
    }

    private static void oddsOfAlike() {
        sentence("25: NONE if one can't be; a CELL is in one COUNTY with itself");
        SwallowSurvey s = lineWithSix(1, 3, 4);
        for (int cell : new int[] {0, 5, 50, 55}) {
            due("odds(" + cell + ", " + cell + ")", s.odds(cell, cell), 100);
        }
        for (int cell : new int[] {-1, 6, 60, 66, 100, MIN, MAX}) {
            due("odds(" + cell + ", 0)", s.odds(cell, 0), NONE);
            due("odds(0, " + cell + ")", s.odds(0, cell), NONE);
            due("odds(" + cell + ", " + cell + ")", s.odds(cell, cell), NONE);
        }
    }

    private static void claims() {
        sentence("26: a CLAIM: false if one can't be (alike)");
        SwallowSurvey s = new SwallowSurvey();
        for (int cell : new int[] {0, 5, 50, 55, 23}) {
            due("claim(" + cell + ", " + cell + ", true)", s.claim(cell, cell, true), false);
            due("claim(" + cell + ", " + cell + ", false)", s.claim(cell, cell, false), false);
        }
        for (int cell : new int[] {-1, 6, 60, 66, 100, MIN, MAX}) {
            due("claim(" + cell + ", 0, true)", s.claim(cell, 0, true), false);
            due("claim(0, " + cell + ", false)", s.claim(0, cell, false), false);
            due("claim(" + cell + ", " + cell + ", true)", s.claim(cell, cell, true), false);
        }
        due("look(21)", s.look(21), 0);
        due("back(0)", s.back(0), 1);
        sentence("26: the same CLAIM may come again, and its opposite");
        due("claim(0, 1, true)", s.claim(0, 1, true), true);
        due("claim(0, 1, true) again", s.claim(0, 1, true), true);
        due("claim(1, 0, true)", s.claim(1, 0, true), true);
        due("look(21)", s.look(21), 3);
        due("back(0)", s.back(0), 1);
        due("claim(0, 1, false)", s.claim(0, 1, false), true);
        due("back(0)", s.back(0), 0);
    }

    private static void twentyClaims() {
        sentence("26: CLAIMS (20 at most); false if there are twenty");
        SwallowSurvey s = new SwallowSurvey();
        for (int i = 0; i < 19; i++) {
            due("claim " + i, s.claim(0, 1, true), true);
            due("claim(2, 2, true)", s.claim(2, 2, true), false);
            due("look(21)", s.look(21), i + 1);
        }
        due("the 20th", s.claim(0, 55, true), true);
        due("the 21st", s.claim(0, 55, false), false);
        due("the 22nd", s.claim(0, 1, true), false);
        due("look(21)", s.look(21), 20);
        due("the 21st doesn't count", s.back(0), 1);
        s = new SwallowSurvey();
        for (int i = 0; i < 19; i++) {
            s.claim(0, 1, true);
        }
        due("back(0) of 19", s.back(0), 1);
        s.claim(0, 55, false);
        due("the 20th counts", s.back(0), 0);
    }

    private static void backWithoutAny() {
        sentence("27: TOLD BACK without HATCHINGS: one set, that of none");
        SwallowSurvey s = new SwallowSurvey();
        dueBack(s, 1, 0, 0);
        s.claim(0, 55, true);
        dueBack(s, 1, 0, 0);
        s.claim(0, 55, false);
        dueBack(s, 0, 0, NONE);
        sentence("27: TOLD BACK without CLAIMS: all sets");
        s = new SwallowSurvey();
        for (int i = 0; i < 6; i++) {
            s.hatch(i, 1, i % 2 * 10);
            dueBack(s, 2 << i, 0, 0);
        }
    }

    /** Seven CELLS in a row with a line between each two; HATCHING i opens line i. */
    private static SwallowSurvey sixLines() {
        SwallowSurvey s = onLand(7, 2);
        habit(s, 0, "stop when step=0 and fl>0;");
        for (int i = 0; i < 6; i++) {
            s.swallow(i + 1, 0, 2, 2, 0);
        }
        for (int i = 0; i < 6; i++) {
            s.hatch(i + 1, 1, 5);
        }
        return s;
    }

    private static void backOfSix() {
        sentence("27: how many sets go with all CLAIMS; those in all of them; the least");
        for (int i = 0; i < 6; i++) {
            SwallowSurvey s = sixLines();
            s.claim(i, i + 1, true);
            dueBack(s, 32, 1 << i, 1 << i);
            s = sixLines();
            s.claim(i + 1, i, false);
            dueBack(s, 32, 0, 0);
        }
        SwallowSurvey s = sixLines();
        dueBack(s, 64, 0, 0);
        s.claim(0, 6, true);
        dueBack(s, 1, 63, 63);
        s = sixLines();
        s.claim(0, 6, false);
        dueBack(s, 63, 0, 0);
        s.claim(1, 6, true);
        dueBack(s, 1, 62, 62);
        s = sixLines();
        s.claim(4, 6, true);
        s.claim(0, 1, false);
        dueBack(s, 8, 48, 48);
        s.claim(2, 1, true);
        dueBack(s, 4, 50, 50);
        sentence("27: sets count whatever their chance is");
        s = lineWithSix(1, 0, 0);
        s.claim(0, 5, true);
        dueBack(s, 3, 0, 1);
        s = lineWithSix(1, 10, 10);
        s.claim(0, 5, false);
        dueBack(s, 1, 0, 0);
    }

    private static void backOfNone() {
        sentence("27: those in all of them (0 without any), the least (NONE)");
        SwallowSurvey s = sixLines();
        s.claim(0, 6, true);
        s.claim(0, 1, false);
        dueBack(s, 0, 0, NONE);
        s = sixLines();
        s.claim(0, 10, false);
        dueBack(s, 0, 0, NONE);
        due("nothing of it stays", s.look(8) + s.of(1, 0), 0);
    }

    private static void backOfAnother() {
        sentence("27: NONE for another what");
        SwallowSurvey s = sixLines();
        for (int what : beyond(0, 2)) {
            due("back(" + what + ")", s.back(what), NONE);
        }
        s = new SwallowSurvey();
        for (int what : beyond(0, 2)) {
            due("back(" + what + ") without any", s.back(what), NONE);
        }
    }

    private static void part() {
        sentence("28: PART: the fewest YARDS that must have thread");
        for (int[] land : new int[][] {{2, 2}, {3, 3}, {10, 10}, {2, 10}, {10, 2}}) {
            SwallowSurvey s = onLand(land[0], land[1]);
            int last = 10 * (land[1] - 1) + land[0] - 1;
            due("from corner to corner", s.part(0, last), 2);
            due("of CELLS beside", s.part(0, 1), 2);
        }
        SwallowSurvey s = onLand(10, 10);
        due("a corner", s.part(0, 55), 2);
        due("the rim", s.part(5, 55), 3);
        due("the rim", s.part(55, 90 + 5), 3);
        due("the middle", s.part(11, 88), 4);
        due("the middle, beside", s.part(44, 45), 4);
        due("the rim, beside", s.part(4, 5), 3);
        s = onLand(2, 10);
        due("a narrow land", s.part(40, 50), 2);
        due("a narrow land", s.part(0, 91), 2);
        s = onLand(3, 3);
        due("the middle of three", s.part(11, 1), 3);
        due("the middle of three", s.part(11, 0), 2);
    }

    private static void partAsThreadsLie() {
        sentence("28: YARDS without thread (threads as they lie now); 0 if they are not in one COUNTY");
        SwallowSurvey s = new SwallowSurvey();
        s.swallow(3, 0, 2, 6, 0);
        due("ahead of the SURVEY", s.part(12, 13), 4);
        s.survey();
        due("parted", s.part(12, 13), 0);
        due("on one side", s.part(11, 41), 3);
        for (int step = 0; step < 6; step++) {
            s.steal(0, step, step);
            due("with gaps: " + (step + 1), s.part(11, 14), Math.min(step + 1, 4));
            due("with gaps: " + (step + 1), s.part(14, 11), Math.min(step + 1, 4));
        }
        s = onLand(2, 2);
        s.swallow(0, 1, 1, 1, 0);
        s.survey();
        due("one way is left", s.part(0, 10), 1);
        due("one way is left", s.part(0, 11), 1);
        due("one way is left", s.part(1, 0), 1);
        due("two ways are not", s.part(1, 11), 1);
        // A ring round one CELL but for one YARD.
        s = withHabit("right when step>0;");
        s.swallow(3, 3, 1, 3, 0);
        s.survey();
        due("one gap in a ring", s.part(33, 0), 1);
        due("one gap in a ring", s.part(55, 33), 1);
        // Ways that must give way to one another: the shortest one bars the others.
        s = withLines(3, 3, new int[][] {{2, 2, 1, 1}, {1, 1, 2, 1}});
        due("ways that give way", s.part(21, 2), 2);
        due("ways that give way", s.part(2, 21), 2);
        s = withLines(3, 3, new int[][] {{2, 1, 2, 1}, {1, 2, 2, 1}});
        due("ways that give way", s.part(0, 21), 2);
        s = withLines(6, 5, new int[][] {{2, 0, 2, 2}, {4, 2, 2, 2}, {2, 3, 1, 1}});
        due("ways that give way twice", s.part(20, 44), 3);
        due("ways that give way twice", s.part(21, 44), 3);
        due("ways that give way twice", s.part(34, 22), 3);
        s = onLand(3, 3);
        habit(s, 0, "stop when step=1;");
        s.swallow(1, 0, 2, 1, 0);
        s.swallow(2, 3, 0, 1, 0);
        s.survey();
        due("round two threads", s.part(0, 22), 1);
        due("round two threads", s.part(10, 12), 2);
        due("round two threads", s.part(1, 21), 2);
    }

    /** A SURVEY with swallows that fly straight: x, y, HEADING, LENGTH. */
    private static SwallowSurvey withLines(int w, int h, int[][] lines) {
        SwallowSurvey s = onLand(w, h);
        for (int[] line : lines) {
            s.swallow(line[0], line[1], line[2], line[3], 0);
        }
        s.survey();
        return s;
    }

    private static void partOfAlike() {
        sentence("28: NONE if one can't be (alike)");
        SwallowSurvey s = new SwallowSurvey();
        for (int cell : new int[] {0, 5, 50, 55, 23}) {
            due("part(" + cell + ", " + cell + ")", s.part(cell, cell), NONE);
        }
        for (int cell : new int[] {-1, 6, 60, 66, 100, MIN, MAX}) {
            due("part(" + cell + ", 0)", s.part(cell, 0), NONE);
            due("part(0, " + cell + ")", s.part(0, cell), NONE);
            due("part(" + cell + ", " + cell + ")", s.part(cell, cell), NONE);
        }
    }

    private static void noImage() {
        sentence("29: false if there is none");
        SwallowSurvey s = new SwallowSurvey();
        s.state(5);
        s.tell(0, 0, 7);
        s.dig(0);
        for (int i = 0; i < 3; i++) {
            due("image(false)", s.image(false), false);
            due("STATE stays", s.look(2), 5);
            due("FLIES stay", s.of(0, 0), 7);
            due("what can be undone stays", s.look(9), 1);
        }
        s.land(3, 3);
        due("image(false) behind land()", s.image(false), false);
        due("image(true)", s.image(true), true);
        due("image(false) then", s.image(false), true);
    }

    private static void imageMoreThanOnce() {
        sentence("29: gone back to it may be more than once, as it was when it was taken");
        SwallowSurvey s = new SwallowSurvey();
        s.state(1);
        s.tell(0, 0, 1);
        s.image(true);
        for (int i = 2; i < 6; i++) {
            s.state(i);
            s.tell(0, 0, i);
            s.nest(i, i);
            due("image(false)", s.image(false), true);
            due("STATE", s.look(2), 1);
            due("FLIES", s.of(0, 0), 1);
            due("NESTS", s.look(5), 0);
        }
        due("image(false) at once", s.image(false), true);
        s.tell(0, 0, 9);
        due("image(true): a later one", s.image(true), true);
        s.tell(0, 0, 8);
        s.image(false);
        due("the later one", s.of(0, 0), 9);
    }

    private static void imageOfAll() {
        sentence("29: THE IMAGE: all that is and was told but the TAPE, fault() and what can be undone");
        SwallowSurvey s = Twins.scene();
        s.image(true);
        changeAll(s);
        due("image(false)", s.image(false), true);
        // An image that is gone back to at once, so that there too nothing can be undone.
        SwallowSurvey twin = Twins.scene();
        twin.image(true);
        twin.image(false);
        Twins.dueAlike("image gone back to", Twins.see(s), Twins.see(twin), "fault");
        for (SwallowSurvey one : new SwallowSurvey[] {s, twin}) {
            one.survey();
            one.spring();
        }
        due("MOVES behind it", s.of(23, 7) * 10 + s.of(30, 7), twin.of(23, 7) * 10 + twin.of(30, 7));
        due("STATE behind it", s.look(2), twin.look(2));
        due("YEAR behind it", s.look(3), twin.look(3));
    }

    private static void imageOfMirrors() {
        sentence("29: MIRRORS of THE IMAGE");
        SwallowSurvey s = withHabit("left;");
        s.swallow(3, 3, 0, 1, 0);
        s.swallow(2, 2, 0, 1, 0);
        s.mirror(3, 3, true);
        s.image(true);
        s.mirror(3, 3, false);
        s.mirror(2, 2, true);
        due("HEADINGS ahead", s.ends(0, 3) * 10 + s.ends(1, 3), 31);
        s.image(false);
        due("HEADINGS of THE IMAGE", s.ends(0, 3) * 10 + s.ends(1, 3), 13);
    }

    /** Something else of everything, then a new land with other things. */
    private static void changeAll(SwallowSurvey s) {
        for (int round = 0; round < 2; round++) {
            s.state(round - 5);
            s.tell(11, 0, 77);
            s.tell(11, 1, 66);
            s.tell(11, 2, 1);
            s.tell(1, 2, 1);
            s.dig(12);
            s.fill(21);
            s.barn(11);
            s.mirror(1, 1, true);
            s.mirror(3, 2, false);
            s.nest(2, 2);
            s.swallow(3, 0, 2, 4, 3);
            for (int k = 0; k < 4; k++) {
                habit(s, k, "left;right;");
            }
            s.hatch(33, 1, 1);
            s.claim(0, 33, true);
            s.survey();
            s.spring();
            s.steal(0, 0, 3);
            s.land(5, 3);
        }
    }

    private static void imageAndTape() {
        sentence("29: the TAPE and fault() are not of THE IMAGE; what can be undone: nothing then");
        SwallowSurvey s = new SwallowSurvey();
        habit(s, 0, "left;?");
        tape(s, "left;");
        s.dig(0);
        s.image(true);
        due("fault() stays", s.fault(0) * 10 + s.fault(1), 15);
        due("the TAPE stays", s.end(5), true);
        due("what can be undone stays", s.look(9), 1);
        due("text(0)", s.text(0), 1);
        tape(s, "right;back;");
        s.dig(1);
        due("image(false)", s.image(false), true);
        due("fault() of the latest", s.fault(0), 0);
        due("its place", s.fault(1), NONE);
        due("the HABIT goes back", s.look(10), 0);
        due("nothing can be undone", s.look(9), 0);
        due("undo()", s.undo(), false);
        due("PONDS of THE IMAGE", s.of(0, 2) * 10 + s.of(1, 2), 10);
        due("the TAPE is as it is", s.end(12), false);
        due("the TAPE is as it is", s.end(11), true);
        due("the TAPE is as it is", s.text(1), 2);
    }

    private static void look() {
        sentence("30: look: each what tells its own");
        SwallowSurvey s = onLand(7, 3);
        s.state(-12);
        s.spring();
        s.spring();
        s.spring();
        s.state(-13);
        for (int i = 0; i < 5; i++) {
            s.swallow(i + 1, 0, 2, 3, i % 2 + 1);
        }
        s.swallow(0, 1, 1, 4, 2);
        for (int i = 0; i < 4; i++) {
            s.nest(i, 0);
            habit(s, i, "ahead;".repeat(i == 0 ? 0 : i + 5));
        }
        s.hatch(0, 1, 1);
        s.hatch(1, 1, 1);
        for (int i = 0; i < 9; i++) {
            s.claim(0, 1, true);
        }
        due("COUNTIES", s.survey(), 10);
        for (int cell = 0; cell < 7; cell++) {
            s.dig(cell);
        }
        int[] answers = {7, 3, -13, 3, 6, 4, 10, 4, 19, 7, 0, 6, 7, 8};
        for (int what = 0; what < answers.length; what++) {
            due("look(" + what + ")", s.look(what), answers[what]);
        }
        due("look(20)", s.look(20), 2);
        due("look(21)", s.look(21), 9);
        sentence("30: look(6), look(8): as threads lie now");
        s.steal(5, 0, 0);
        due("COUNTIES", s.look(6), 9);
        due("YARDS with thread", s.look(8), 18);
    }

    private static void lookOfAnother() {
        sentence("30: NONE for another what");
        for (SwallowSurvey s : new SwallowSurvey[] {new SwallowSurvey(), Twins.scene(), Twins.fullScene()}) {
            for (int what : NO_LOOKS) {
                due("look(" + what + ")", s.look(what), NONE);
            }
        }
    }

    private static void allCallsOfAnObject() {
        sentence("an object is used for at most 512 calls");
        SwallowSurvey s = new SwallowSurvey();
        for (int call = 1; call < 512; call++) {
            due("spring() as call " + call, s.spring(), 1);
        }
        due("look(3) as call 512", s.look(3), 511);
        s = new SwallowSurvey();
        for (int call = 1; call <= 512; call++) {
            due("text(0) as call " + call, s.text(0), 0);
        }
    }
}
