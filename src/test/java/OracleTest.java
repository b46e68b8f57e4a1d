import java.lang.reflect.InvocationTargetException;
import java.lang.reflect.Method;
import java.util.ArrayList;
import java.util.List;
import java.util.Random;

/** Random runs of calls: the class and the Oracle must answer alike. */
public final class OracleTest {
    private static final int RUNS = Integer.getInteger("runs", 400);
    private static final long SEED = Long.getLong("seed", 1L);
    private static int wrong = 0;

    private final Random random;
    private final SwallowSurvey survey = new SwallowSurvey();
    private final Oracle oracle = new Oracle();
    private final List<String> calls = new ArrayList<>();
    private final int run;
    private final boolean wild;
    private int w = 6;
    private int h = 6;
    private boolean bad;

    private OracleTest(int run) {
        this.run = run;
        random = new Random(SEED * 1000003L + run);
        wild = random.nextInt(5) == 0;
    }

    public static void main(String[] args) throws Exception {
        for (int run = 0; run < RUNS && wrong < 5; run++) {
            new OracleTest(run).go();
        }
        System.out.println(wrong == 0 ? RUNS + " runs are alike" : wrong + " runs are not alike");
        if (wrong != 0) {
            System.exit(1);
        }
    }

    private void go() throws Exception {
        begin();
        while (calls.size() < 500 && !bad) {
            oneCall();
        }
        if (bad) {
            wrong++;
        }
    }

    /** Most runs begin with a land in which something can happen. */
    private void begin() throws Exception {
        call("state", random.nextInt());
        int shape = random.nextInt(4);
        if (shape == 0) {
            newLand(2 + random.nextInt(3), 2 + random.nextInt(2));
        } else if (shape == 1) {
            newLand(2 + random.nextInt(9), 2 + random.nextInt(9));
        } else if (shape == 2) {
            newLand(2 + random.nextInt(4), 2 + random.nextInt(4));
        }
        for (int k = 0; k < 4; k++) {
            tellText(new Texts(random).habit(), k);
        }
        for (int i = random.nextInt(9); i > 0; i--) {
            addSwallow();
        }
        for (int i = random.nextInt(20); i > 0; i--) {
            call("tell", cell(), 0, random.nextInt(60));
        }
        for (int i = random.nextInt(5); i > 0; i--) {
            call("dig", cell());
            call("barn", cell());
        }
        call("survey");
    }

    private void newLand(int width, int height) throws Exception {
        if (call("land", width, height) != 0) {
            w = width;
            h = height;
        }
    }

    private void addSwallow() throws Exception {
        call("swallow", random.nextInt(w + 1), random.nextInt(h + 1), random.nextInt(4), random.nextInt(61),
                random.nextInt(4));
    }

    private void tellText(String text, int k) throws Exception {
        String padded = text;
        while (padded.length() % 20 != 0) {
            padded += " ";
        }
        for (int i = 0; i < padded.length(); i += 20) {
            int[] five = new int[5];
            for (int j = 0; j < 20; j++) {
                five[j / 4] = five[j / 4] << 8 | padded.charAt(i + j) & 255;
            }
            call("feed", five[0], five[1], five[2], five[3], five[4]);
        }
        call("end", random.nextInt(20) == 0 ? random.nextInt(text.length() + 3) : text.length());
        call("text", k);
        call("fault", 0);
        call("fault", 1);
    }

    private int cell() {
        return odd(10 * random.nextInt(h) + random.nextInt(w), 112);
    }

    private int x() {
        return odd(random.nextInt(w + 1), 14);
    }

    private int y() {
        return odd(random.nextInt(h + 1), 14);
    }

    /** Now and then another number than a good one. */
    private int odd(int good, int near) {
        if (random.nextInt(wild ? 6 : 40) != 0) {
            return good;
        }
        int kind = random.nextInt(8);
        return kind == 0 ? Integer.MAX_VALUE : kind == 1 ? Integer.MIN_VALUE : kind == 2 ? random.nextInt()
                : kind == 3 ? -1 - random.nextInt(near) : random.nextInt(near);
    }

    private int upTo(int most) {
        return odd(random.nextInt(most + 1), most + 4);
    }

    private void oneCall() throws Exception {
        switch (random.nextInt(44)) {
            case 0 -> call("state", random.nextInt());
            case 1 -> changeLand();
            case 2, 3 -> call("tell", cell(), 0, upTo(99));
            case 4 -> call("tell", cell(), upTo(2), random.nextInt(3));
            case 5, 6 -> call("dig", cell());
            case 7, 8 -> call("fill", cell());
            case 9, 10 -> call("undo");
            case 11 -> call("barn", cell());
            case 12 -> call("mirror", x(), y(), random.nextInt(3));
            case 13 -> call("nest", x(), y());
            case 14 -> call("swallow", x(), y(), upTo(3), upTo(60), upTo(3));
            case 15 -> call("feed", random.nextInt(), 0x3b282020, random.nextInt(), 0x66726e6f, 0x6c656674);
            case 16 -> call("end", odd(random.nextInt(60), 420));
            case 17 -> call("text", upTo(3));
            case 18, 19 -> newText();
            case 20, 21, 22 -> call("survey");
            case 23, 24, 25 -> call("spring");
            case 26, 27, 28 -> call("of", cell(), upTo(8));
            case 29, 30 -> call("yard", x(), y(), upTo(3), upTo(1));
            case 31, 32 -> call("suit", odd(random.nextInt(8), 120), upTo(5));
            case 33 -> call("steal", upTo(4), upTo(10), upTo(60));
            case 34, 35 -> call("ends", upTo(7), upTo(3));
            case 36 -> planNowAndThen();
            case 37 -> call("hatch", cell(), upTo(99), upTo(10));
            case 38 -> call("odds", cell(), cell());
            case 39 -> call("claim", cell(), cell(), random.nextInt(3));
            case 40 -> call("back", upTo(2));
            case 41 -> call("part", cell(), cell());
            case 42 -> goBack();
            default -> call("look", odd(random.nextInt(22), 40));
        }
    }

    private void newText() throws Exception {
        call("end", 0);
        tellText(new Texts(random).any(), upTo(3));
    }

    private void changeLand() throws Exception {
        if (random.nextInt(8) == 0) {
            newLand(odd(2 + random.nextInt(5), 14), odd(2 + random.nextInt(5), 14));
            for (int i = 0; i < 4; i++) {
                addSwallow();
            }
        }
    }

    /** The Oracle is slow with it. */
    private void planNowAndThen() throws Exception {
        if (w * h <= 12 || w * h > 36 || random.nextInt(w * h <= 20 ? 4 : 16) == 0) {
            call("plan", cell(), cell(), upTo(3));
        }
    }

    private void goBack() throws Exception {
        if (random.nextInt(2) == 0) {
            call("image", random.nextInt(2));
            w = (int) call("look", 0);
            h = (int) call("look", 1);
        }
    }

    private long call(String name, int... args) throws Exception {
        long got = answer(survey, SwallowSurvey.class, name, args);
        long due = answer(oracle, Oracle.class, name, args);
        String row = name + java.util.Arrays.toString(args) + " -> " + got;
        calls.add(row);
        if (got != due && !bad) {
            bad = true;
            System.out.println("run " + run + ", call " + calls.size() + ": " + row + ", due is " + due);
            if (Boolean.getBoolean("tell")) {
                calls.forEach(System.out::println);
            }
        }
        return got;
    }

    private static long answer(Object on, Class<?> face, String name, int[] args) throws Exception {
        for (Method m : face.getDeclaredMethods()) {
            if (m.getName().equals(name) && m.getParameterCount() == args.length) {
                Object[] given = new Object[args.length];
                for (int i = 0; i < args.length; i++) {
                    boolean flag = m.getParameterTypes()[i] == boolean.class;
                    given[i] = flag ? (Object) (args[i] != 0) : (Object) args[i];
                }
                m.setAccessible(true);
                try {
                    Object back = m.invoke(on, given);
                    return back instanceof Boolean b ? (b ? 1 : 0) : (Integer) back;
                } catch (InvocationTargetException e) {
                    throw new IllegalStateException(name + java.util.Arrays.toString(args), e.getCause());
                }
            }
        }
        throw new IllegalStateException("no method " + name);
    }
}
