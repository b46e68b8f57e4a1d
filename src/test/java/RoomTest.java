import com.sun.management.ThreadMXBean;
import java.lang.management.ManagementFactory;

/** All calls of a run live in one room: what the dearest calls make is counted. */
public final class RoomTest {
    private static final long OBJECT_BYTES = 60_000;
    private static int wrong = 0;

    private static long made() {
        return ((ThreadMXBean) ManagementFactory.getThreadMXBean()).getCurrentThreadAllocatedBytes();
    }

    private static void most(String what, long bytes, long most) {
        if (bytes > most) {
            wrong++;
            System.out.println(what + " made " + bytes + " bytes, at most " + most);
        }
    }

    public static void main(String[] args) {
        new SwallowSurvey().look(0);
        made();
        long before = made();
        SwallowSurvey s = new SwallowSurvey();
        most("the object", made() - before, OBJECT_BYTES);
        // Classes that are loaded on the way count too: once around first.
        work(new SwallowSurvey(), 1);
        before = made();
        work(s, 20);
        most("some 400 calls", made() - before, 20_000);
        System.out.println(wrong == 0 ? "there is room" : wrong + " make too much");
        if (wrong != 0) {
            System.exit(1);
        }
    }

    private static void work(SwallowSurvey s, int rounds) {
        for (int i = 0; i < 8; i++) {
            s.swallow(i % 7, i * 2 % 7, i % 4, 60, i % 4);
        }
        for (int i = 0; i < 6; i++) {
            s.hatch(i * 11, 50, 5);
        }
        s.claim(0, 55, true);
        for (int i = 0; i < rounds; i++) {
            // "left when rim=1;left when fl<fr;"
            s.feed(0x6c656674, 0x20776865, 0x6e207269, 0x6d3d313b, 0x6c656674);
            s.feed(0x20776865, 0x6e20666c, 0x3c66723b, 0x20202020, 0x20202020);
            s.text(i % 4);
            s.survey();
            s.spring();
            s.plan(0, 55, 0);
            s.odds(0, 55);
            s.back(0);
            s.part(0, 55);
            s.ends(7, 0);
            s.image(i % 3 == 0);
            s.dig(i);
            s.undo();
            s.of(0, 5);
            s.of(0, 1);
            s.look(6);
            s.suit(0, 5);
            s.steal(1, 0, 4);
        }
    }
}
