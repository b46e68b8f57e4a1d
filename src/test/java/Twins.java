import java.util.LinkedHashMap;
import java.util.Map;
import java.util.function.Supplier;
import java.util.function.ToLongFunction;

/**
 * Whether a call changes nothing: of two objects with the same calls one gets that call too, then both must answer
 * alike whatever is asked. Each object stays below the 512 calls for which it is used.
 */
final class Twins extends Checks {
    private static final int W = 4;
    private static final int H = 4;

    private Twins() {
    }

    /** A land of four by four with some of everything: threads, SUITS, MOVES, a TAPE, a FAULT, an image. */
    static SwallowSurvey scene() {
        SwallowSurvey s = new SwallowSurvey();
        s.state(20261118);
        s.land(W, H);
        habit(s, 0, "right when rim=1;left when fl>fr+20;");
        habit(s, 1, "stop when pl+pr>0;");
        habit(s, 2, "back when rest=1;");
        s.swallow(0, 2, 1, 12, 0);
        s.swallow(2, 0, 2, 4, 1);
        s.swallow(1, 4, 0, 5, 2);
        s.swallow(4, 3, 3, 6, 3);
        s.tell(11, 0, 33);
        s.tell(22, 1, 7);
        s.tell(33, 2, 1);
        s.barn(23);
        s.barn(30);
        s.mirror(3, 2, true);
        s.nest(0, 0);
        s.nest(3, 3);
        s.hatch(12, 40, 3);
        s.hatch(1, 99, 6);
        s.claim(0, 3, false);
        s.claim(2, 22, true);
        s.dig(2);
        s.survey();
        s.image(true);
        s.fill(2);
        s.spring();
        s.steal(0, 1, 2);
        s.dig(20);
        s.dig(21);
        s.fill(20);
        habit(s, 3, "left;;");
        tape(s, "left when rim=1;");
        return s;
    }

    /** The same, and no place is free: NESTS, SWALLOWS, HATCHINGS, CLAIMS, what can be undone, the TAPE. */
    static SwallowSurvey fullScene() {
        SwallowSurvey s = scene();
        for (int i = 0; i < 4; i++) {
            s.nest(i, 1);
        }
        for (int i = 0; i < 4; i++) {
            s.swallow(i, i, i, 3 + i, 3);
        }
        for (int cell : new int[] {0, 2, 3, 10}) {
            s.hatch(cell, 10, 5);
        }
        for (int i = 0; i < 18; i++) {
            s.claim(0, 3, false);
        }
        s.survey();
        for (int cell : new int[] {0, 1, 2, 3, 10, 11, 12, 13, 23, 30}) {
            s.dig(cell);
        }
        tape(s, "left when rim=1;" + " ".repeat(365));
        return s;
    }

    /** The same in the last YEAR; more calls than an object is used for, but no other way leads there. */
    static SwallowSurvey lastYear() {
        SwallowSurvey s = scene();
        for (int year = s.look(3); year < 9999; year++) {
            s.spring();
        }
        s.dig(13);
        return s;
    }

    static void dueNothingDone(Supplier<SwallowSurvey> scene, String what, ToLongFunction<SwallowSurvey> call,
            long answer) {
        SwallowSurvey asked = scene.get();
        due(what, call.applyAsLong(asked), answer);
        dueAlike(what, see(asked), see(scene.get()), "");
        asked = scene.get();
        call.applyAsLong(asked);
        dueAlike(what, goOn(asked), goOn(scene.get()), "");
    }

    /** Answers alike but for those whose name begins with the given word. */
    static void dueAlike(String what, Map<String, Long> got, Map<String, Long> want, String but) {
        due(what + ": as many answers", got.size(), want.size());
        for (Map.Entry<String, Long> e : want.entrySet()) {
            if (but.isEmpty() || !e.getKey().startsWith(but)) {
                due(what + ", then " + e.getKey(), got.getOrDefault(e.getKey(), Long.MIN_VALUE), e.getValue());
            }
        }
    }

    /** All that can be asked without changing anything. */
    static Map<String, Long> see(SwallowSurvey s) {
        Map<String, Long> seen = new LinkedHashMap<>();
        for (int what = 0; what < 22; what++) {
            seen.put("look(" + what + ")", (long) s.look(what));
        }
        seeCells(s, seen, new int[] {0, 1, 2, 3, 4, 5, 6, 7, 8});
        for (int point = 0; point < 25; point++) {
            for (int i = 0; i < 4; i++) {
                String name = "yard(" + point % 5 + ", " + point / 5 + ", " + (1 + i / 2) + ", " + i % 2 + ")";
                seen.put(name, (long) s.yard(point % 5, point / 5, 1 + i / 2, i % 2));
            }
        }
        for (int i = 0; i < 36; i++) {
            seen.put("suit(" + i / 6 + ", " + i % 6 + ")", (long) s.suit(i / 6, i % 6));
        }
        for (int i = 0; i < 32; i++) {
            seen.put("ends(" + i / 4 + ", " + i % 4 + ")", (long) s.ends(i / 4, i % 4));
        }
        for (int what = 0; what < 4; what++) {
            seen.put("plan(1, 2, " + what + ")", (long) s.plan(1, 2, what));
            seen.put("back(" + what + ")", (long) s.back(what));
            seen.put("fault(" + what + ")", (long) s.fault(what));
        }
        seen.put("odds(0, 10)", (long) s.odds(0, 10));
        seen.put("odds(2, 22)", (long) s.odds(2, 22));
        seen.put("part(0, 10)", (long) s.part(0, 10));
        return seen;
    }

    private static void seeCells(SwallowSurvey s, Map<String, Long> seen, int[] whats) {
        int round = seen.size();
        for (int i = 0; i < W * H; i++) {
            int cell = i / W * 10 + i % W;
            for (int what : whats) {
                seen.put("of(" + cell + ", " + what + ") as answer " + round, (long) s.of(cell, what));
            }
        }
    }

    /** What shows only when it is used: what can be undone, names of COUNTIES, STATE, the TAPE, THE IMAGE. */
    private static Map<String, Long> goOn(SwallowSurvey s) {
        Map<String, Long> seen = new LinkedHashMap<>();
        for (int i = 0; i < 5; i++) {
            seen.put("undo() " + i, s.undo() ? 1L : 0L);
            seeCells(s, seen, new int[] {2});
        }
        seen.put("survey()", (long) s.survey());
        seeCells(s, seen, new int[] {7});
        seen.put("spring()", (long) s.spring());
        seeCells(s, seen, new int[] {0, 7});
        int most = 400;
        while (most > 0 && !s.end(most)) {
            most -= most > 380 || most <= 20 ? 1 : 20;
        }
        seen.put("bytes of the TAPE", (long) most);
        seen.put("text(3)", (long) s.text(3));
        seen.put("survey() by the TAPE", (long) s.survey());
        seen.put("image(false)", s.image(false) ? 1L : 0L);
        seeCells(s, seen, new int[] {0, 1, 3, 5, 7});
        seen.put("survey() of THE IMAGE", (long) s.survey());
        seen.put("look(2) of THE IMAGE", (long) s.look(2));
        return seen;
    }
}
