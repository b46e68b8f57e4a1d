import java.util.function.Supplier;
import java.util.function.ToLongFunction;

/** Calls that are refused, and calls that only ask: what they answer, and that nothing is done by them. */
public final class BoundsRefusedTest extends Checks {
    /** CELLS that a land of four by four has not. */
    private static final int[] NO_CELLS = {-1, 4, 9, 14, 34, 40, 43, 44, 99, 100, -10, MIN, MAX};
    private static final int[] NO_SIDES = {-1, 5, 6, 11, MIN, MAX};

    public static void main(String[] args) {
        refusedLands();
        refusedTells();
        refusedPonds();
        refusedUndo();
        refusedBarns();
        refusedMirrors();
        refusedNests();
        refusedSwallows();
        refusedFeeds();
        refusedEnds();
        refusedSprings();
        refusedThefts();
        refusedHatchings();
        refusedClaims();
        refusedImage();
        noPlaceIsFree();
        questions();
        questionsBeyond();
        finish();
    }

    private static void refused(String what, ToLongFunction<SwallowSurvey> call, long answer) {
        Twins.dueNothingDone(Twins::scene, what, call, answer);
    }

    private static long number(boolean is) {
        return is ? 1 : 0;
    }

    private static void refusedLands() {
        sentence("3: false, and nothing is done, if they can't be");
        for (int side : new int[] {1, 11, 0, -1, MIN, MAX}) {
            refused("land(" + side + ", 5)", s -> number(s.land(side, 5)), 0);
            refused("land(5, " + side + ")", s -> number(s.land(5, side)), 0);
            refused("land(4, " + side + ")", s -> number(s.land(4, side)), 0);
            refused("land(" + side + ", " + side + ")", s -> number(s.land(side, side)), 0);
        }
    }

    private static void refusedTells() {
        sentence("4: false if one can't be, or another what");
        for (int v : new int[] {-1, 100, MIN, MAX}) {
            refused("tell(11, 0, " + v + ")", s -> number(s.tell(11, 0, v)), 0);
            refused("tell(11, 1, " + v + ")", s -> number(s.tell(11, 1, v)), 0);
            refused("tell(11, 2, " + v + ")", s -> number(s.tell(11, 2, v)), 0);
        }
        refused("tell(33, 2, 2)", s -> number(s.tell(33, 2, 2)), 0);
        for (int what : new int[] {-1, 3, MIN, MAX}) {
            refused("tell(11, " + what + ", 1)", s -> number(s.tell(11, what, 1)), 0);
        }
        for (int cell : NO_CELLS) {
            for (int what = 0; what < 3; what++) {
                int of = what;
                refused("tell(" + cell + ", " + of + ", 1)", s -> number(s.tell(cell, of, 1)), 0);
            }
        }
    }

    private static void refusedPonds() {
        sentence("5, 6: false if one can't be (there is one); false if there is none");
        refused("dig(21): there is one", s -> number(s.dig(21)), 0);
        refused("fill(20): there is none", s -> number(s.fill(20)), 0);
        refused("fill(0): there was none", s -> number(s.fill(0)), 0);
        for (int cell : NO_CELLS) {
            refused("dig(" + cell + ")", s -> number(s.dig(cell)), 0);
            refused("fill(" + cell + ")", s -> number(s.fill(cell)), 0);
        }
    }

    private static SwallowSurvey withNothingToUndo() {
        SwallowSurvey s = Twins.scene();
        for (int i = 0; i < 3; i++) {
            due("undo()", s.undo(), true);
        }
        return s;
    }

    private static void refusedUndo() {
        sentence("7: false if there is nothing");
        Twins.dueNothingDone(BoundsRefusedTest::withNothingToUndo, "undo()", s -> number(s.undo()), 0);
        Twins.dueNothingDone(SwallowSurvey::new, "undo() of a new object", s -> number(s.undo()), 0);
    }

    private static void refusedBarns() {
        sentence("8: false if one can't be (there is one)");
        refused("barn(23): there is one", s -> number(s.barn(23)), 0);
        refused("barn(30): there is one", s -> number(s.barn(30)), 0);
        for (int cell : NO_CELLS) {
            refused("barn(" + cell + ")", s -> number(s.barn(cell)), 0);
        }
    }

    private static void refusedMirrors() {
        sentence("9: false if one can't be");
        for (int v : NO_SIDES) {
            for (boolean is : new boolean[] {true, false}) {
                refused("mirror(" + v + ", 2, " + is + ")", s -> number(s.mirror(v, 2, is)), 0);
                refused("mirror(3, " + v + ", " + is + ")", s -> number(s.mirror(3, v, is)), 0);
            }
        }
    }

    private static void refusedNests() {
        sentence("10: NONE if one can't be");
        for (int v : NO_SIDES) {
            refused("nest(" + v + ", 2)", s -> s.nest(v, 2), NONE);
            refused("nest(2, " + v + ")", s -> s.nest(2, v), NONE);
        }
    }

    private static void refusedSwallows() {
        sentence("11: NONE if one can't be");
        for (int v : NO_SIDES) {
            refused("swallow(" + v + ", 2, 1, 5, 0)", s -> s.swallow(v, 2, 1, 5, 0), NONE);
            refused("swallow(2, " + v + ", 1, 5, 0)", s -> s.swallow(2, v, 1, 5, 0), NONE);
        }
        for (int v : new int[] {-1, 4, MIN, MAX}) {
            refused("swallow(2, 2, " + v + ", 5, 0)", s -> s.swallow(2, 2, v, 5, 0), NONE);
            refused("swallow(2, 2, 1, 5, " + v + ")", s -> s.swallow(2, 2, 1, 5, v), NONE);
        }
        for (int v : new int[] {-1, 61, MIN, MAX}) {
            refused("swallow(2, 2, 1, " + v + ", 0)", s -> s.swallow(2, 2, 1, v, 0), NONE);
        }
    }

    private static void refusedFeeds() {
        sentence("12: NONE, and nothing comes, if there would be more than 400");
        for (int left = 0; left < 20; left++) {
            int length = 400 - left;
            Supplier<SwallowSurvey> scene = () -> {
                SwallowSurvey s = Twins.scene();
                tape(s, "left when rim=1;" + " ".repeat(length - 16));
                return s;
            };
            Twins.dueNothingDone(scene, "feed behind " + length, s -> s.feed(-1, 0, -1, 0, -1), NONE);
        }
    }

    private static void refusedEnds() {
        sentence("13: false, changing nothing, if it has not so many, or n is below 0");
        for (int n : new int[] {-1, -16, 17, 20, 400, 401, MIN, MAX}) {
            refused("end(" + n + ")", s -> number(s.end(n)), 0);
        }
    }

    private static void refusedSprings() {
        sentence("17: NONE, and nothing is done, if YEAR is 9999");
        Twins.dueNothingDone(Twins::lastYear, "spring() in the last YEAR", SwallowSurvey::spring, NONE);
    }

    private static void refusedThefts() {
        sentence("21: NONE if one can't be (to below from; from below 0)");
        int[][] rows = {{0, -1, 5}, {0, 1, 0}, {0, 60, 0}, {4, 0, 60}, {-1, 0, 60}, {MIN, 0, 60}, {MAX, 0, 60},
            {2, MIN, MAX}, {1, -1, -1}, {3, 0, -1}};
        for (int[] row : rows) {
            String what = "steal(" + row[0] + ", " + row[1] + ", " + row[2] + ")";
            refused(what, s -> s.steal(row[0], row[1], row[2]), NONE);
        }
    }

    private static void refusedHatchings() {
        sentence("24: NONE if one can't be (a CELL that has one)");
        for (int cell : NO_CELLS) {
            refused("hatch(" + cell + ", 5, 5)", s -> s.hatch(cell, 5, 5), NONE);
        }
        refused("hatch(12, 5, 5)", s -> s.hatch(12, 5, 5), NONE);
        refused("hatch(1, 0, 0)", s -> s.hatch(1, 0, 0), NONE);
        for (int v : new int[] {-1, 100, MIN, MAX}) {
            refused("hatch(0, " + v + ", 5)", s -> s.hatch(0, v, 5), NONE);
        }
        for (int v : new int[] {-1, 11, MIN, MAX}) {
            refused("hatch(0, 5, " + v + ")", s -> s.hatch(0, 5, v), NONE);
        }
    }

    private static void refusedClaims() {
        sentence("26: false if one can't be (alike)");
        for (int cell : NO_CELLS) {
            refused("claim(" + cell + ", 0, true)", s -> number(s.claim(cell, 0, true)), 0);
            refused("claim(0, " + cell + ", false)", s -> number(s.claim(0, cell, false)), 0);
        }
        refused("claim(0, 0, true)", s -> number(s.claim(0, 0, true)), 0);
        refused("claim(33, 33, false)", s -> number(s.claim(33, 33, false)), 0);
    }

    private static void refusedImage() {
        sentence("29: false if there is none");
        Supplier<SwallowSurvey> scene = () -> {
            SwallowSurvey s = new SwallowSurvey();
            s.state(9);
            s.land(4, 4);
            habit(s, 0, "left;?");
            tape(s, "left;");
            s.swallow(2, 0, 2, 4, 0);
            s.survey();
            s.tell(0, 0, 9);
            s.dig(0);
            return s;
        };
        Twins.dueNothingDone(scene, "image(false)", s -> number(s.image(false)), 0);
    }

    private static void noPlaceIsFree() {
        sentence("10, 11, 12, 24, 26: NONE or false if all places are taken, and nothing is done");
        SwallowSurvey full = Twins.fullScene();
        due("SWALLOWS", full.look(4), 8);
        due("NESTS", full.look(5), 6);
        due("what can be undone", full.look(9), 10);
        due("HATCHINGS", full.look(20), 6);
        due("CLAIMS", full.look(21), 20);
        due("bytes of the TAPE", full.end(381) && !full.end(382), true);
        Supplier<SwallowSurvey> scene = Twins::fullScene;
        Twins.dueNothingDone(scene, "nest(2, 2)", s -> s.nest(2, 2), NONE);
        Twins.dueNothingDone(scene, "swallow(2, 2, 1, 2, 0)", s -> s.swallow(2, 2, 1, 2, 0), NONE);
        Twins.dueNothingDone(scene, "hatch(33, 9, 9)", s -> s.hatch(33, 9, 9), NONE);
        Twins.dueNothingDone(scene, "claim(0, 1, true)", s -> number(s.claim(0, 1, true)), 0);
        Twins.dueNothingDone(scene, "claim(0, 1, false)", s -> number(s.claim(0, 1, false)), 0);
        Twins.dueNothingDone(scene, "feed", s -> s.feed(0, 0, 0, 0, 0), NONE);
    }

    private static void questions() {
        sentence("Terms 3: IN THOUGHT nothing of it stays; calls that ask change nothing");
        dueAsked("ends", s -> s.ends(0, 0) + s.ends(3, 3));
        dueAsked("plan", s -> s.plan(1, 2, 0) + s.plan(0, 33, 1) + s.plan(0, 10, 2));
        dueAsked("odds", s -> s.odds(0, 10) + s.odds(2, 22));
        dueAsked("back", s -> s.back(0) + s.back(1) + s.back(2));
        dueAsked("part", s -> s.part(0, 10) + s.part(0, 33));
        dueAsked("fault", s -> s.fault(0) + s.fault(1));
        dueAsked("of", s -> s.of(11, 1) + s.of(11, 5) + s.of(11, 6));
        dueAsked("yard", s -> s.yard(1, 1, 1, 0) + s.yard(2, 0, 2, 1));
        dueAsked("suit", s -> s.suit(0, 0) + s.suit(1, 5));
        dueAsked("look", s -> s.look(6) + s.look(8));
        dueAsked("end of all", s -> number(s.end(16)));
        dueAsked("a MIRROR where one is", s -> number(s.mirror(3, 2, true)));
        dueAsked("no MIRROR where none is", s -> number(s.mirror(0, 0, false)));
        dueAsked("STATE as it is", s -> s.state(s.look(2)));
        dueAsked("FLIES as they are", s -> number(s.tell(11, 0, s.of(11, 0))));
    }

    private static void dueAsked(String what, ToLongFunction<SwallowSurvey> call) {
        refused(what, call, call.applyAsLong(Twins.scene()));
    }

    private static void questionsBeyond() {
        sentence("15, 18 to 20, 22, 23, 25, 27, 28, 30: NONE, and nothing is done");
        for (int v : new int[] {-1, MIN, MAX, 40, 1000}) {
            refused("fault(" + v + ")", s -> s.fault(v), NONE);
            refused("of(" + v + ", 0)", s -> s.of(v, 0), NONE);
            refused("of(0, " + v + ")", s -> s.of(0, v), NONE);
            refused("yard(" + v + ", 0, 1, 0)", s -> s.yard(v, 0, 1, 0), NONE - 1);
            refused("yard(0, 0, " + v + ", 0)", s -> s.yard(0, 0, v, 0), NONE - 1);
            refused("yard(0, 0, 1, " + v + ")", s -> s.yard(0, 0, 1, v), NONE - 1);
            refused("suit(" + v + ", 0)", s -> s.suit(v, 0), NONE);
            refused("suit(0, " + v + ")", s -> s.suit(0, v), NONE);
            refused("ends(" + v + ", 0)", s -> s.ends(v, 0), NONE);
            refused("ends(0, " + v + ")", s -> s.ends(0, v), NONE);
            refused("plan(" + v + ", 0, 0)", s -> s.plan(v, 0, 0), NONE);
            refused("plan(0, 1, " + v + ")", s -> s.plan(0, 1, v), NONE);
            refused("odds(" + v + ", 0)", s -> s.odds(v, 0), NONE);
            refused("back(" + v + ")", s -> s.back(v), NONE);
            refused("part(" + v + ", 0)", s -> s.part(v, 0), NONE);
            refused("look(" + v + ")", s -> s.look(v), NONE);
        }
        refused("plan(0, 0, 0)", s -> s.plan(0, 0, 0), NONE);
        refused("part(0, 0)", s -> s.part(0, 0), NONE);
    }
}
