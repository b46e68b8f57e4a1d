import java.util.ArrayList;
import java.util.Comparator;
import java.util.HashMap;
import java.util.HashSet;
import java.util.LinkedHashMap;
import java.util.List;
import java.util.Map;
import java.util.Set;
import java.util.TreeMap;

/** A second reading of the document, as plain as can be and with the whole library, to compare with. */
final class Oracle {
    private static final int NONE = -1;
    private static final Set<String> WORDS = Set.of("ahead", "left", "right", "back", "stop", "when", "or", "and",
            "not", "fl", "fr", "pl", "pr", "thread", "rim", "step", "rest", "swallow");
    private static final Set<String> TURNS = Set.of("ahead", "left", "right", "back", "stop");
    private static final Set<String> UNITS = Set.of("fl", "fr", "pl", "pr", "thread", "rim", "step", "rest",
            "swallow");

    record Point(int x, int y) {
        Point go(int heading) {
            return switch (heading) {
                case 0 -> new Point(x, y - 1);
                case 1 -> new Point(x + 1, y);
                case 2 -> new Point(x, y + 1);
                default -> new Point(x - 1, y);
            };
        }
    }

    record Thread(int who, int step) { }

    record Suit(int who, int other, int x, int y, int step) { }

    record Swallow(int x, int y, int heading, int length, int habit) { }

    record Hatching(int cell, int flies, int chance) { }

    record Claim(int a, int b, boolean one) { }

    record End(int x, int y, int steps, int heading) { }

    record Line(String turn, Node when) { }

    interface Node {
        int eval(Map<String, Integer> known);
    }

    static final class Fault extends Exception {
        private static final long serialVersionUID = 1L;
        final int kind;
        final int place;

        Fault(int kind, int place) {
            this.kind = kind;
            this.place = place;
        }
    }

    /** All that THE IMAGE holds. */
    static final class World {
        int w = 6;
        int h = 6;
        int state = 0;
        int year = 0;
        Map<Integer, Integer> flies = new HashMap<>();
        Map<Integer, Integer> price = new HashMap<>();
        Set<Integer> ponds = new HashSet<>();
        Set<Integer> cats = new HashSet<>();
        Map<Integer, Integer> barnMoves = new HashMap<>();
        Map<Integer, Integer> barnNames = new HashMap<>();
        Set<Point> mirrors = new HashSet<>();
        List<Point> nests = new ArrayList<>();
        List<Swallow> swallows = new ArrayList<>();
        List<Hatching> hatchings = new ArrayList<>();
        List<Claim> claims = new ArrayList<>();
        Map<Integer, List<Line>> habits = new HashMap<>();
        Map<Set<Point>, Thread> threads = new HashMap<>();
        List<Suit> suits = new ArrayList<>();

        World copy() {
            World c = new World();
            c.w = w;
            c.h = h;
            c.state = state;
            c.year = year;
            c.flies.putAll(flies);
            c.price.putAll(price);
            c.ponds.addAll(ponds);
            c.cats.addAll(cats);
            c.barnMoves.putAll(barnMoves);
            c.barnNames.putAll(barnNames);
            c.mirrors.addAll(mirrors);
            c.nests.addAll(nests);
            c.swallows.addAll(swallows);
            c.hatchings.addAll(hatchings);
            c.claims.addAll(claims);
            c.habits.putAll(habits);
            c.threads.putAll(threads);
            c.suits.addAll(suits);
            return c;
        }

        boolean cell(int c) {
            return c >= 0 && c % 10 < w && c / 10 < h;
        }

        boolean point(Point p) {
            return p.x() >= 0 && p.y() >= 0 && p.x() <= w && p.y() <= h;
        }

        int cellOf(int x, int y) {
            return x < 0 || y < 0 || x >= w || y >= h ? NONE : 10 * y + x;
        }

        List<Integer> cells() {
            List<Integer> all = new ArrayList<>();
            for (int y = 0; y < h; y++) {
                for (int x = 0; x < w; x++) {
                    all.add(10 * y + x);
                }
            }
            return all;
        }

        List<Integer> beside(int c) {
            List<Integer> all = new ArrayList<>();
            for (int d : new int[] {-10, -1, 1, 10}) {
                int o = c + d;
                if (cell(o) && Math.abs(o % 10 - c % 10) + Math.abs(o / 10 - c / 10) == 1) {
                    all.add(o);
                }
            }
            return all;
        }

        int seen(int c) {
            int sum = flies.getOrDefault(c, 0) + (ponds.contains(c) ? 20 : 0);
            for (int o : beside(c)) {
                sum += ponds.contains(o) ? 5 : 0;
            }
            return sum;
        }

        /** The YARD between two CELLS: the two corners that they share. */
        Set<Point> between(int a, int b) {
            Set<Point> shared = corners(a);
            shared.retainAll(corners(b));
            return shared;
        }

        private Set<Point> corners(int c) {
            int x = c % 10;
            int y = c / 10;
            return new HashSet<>(Set.of(new Point(x, y), new Point(x + 1, y), new Point(x, y + 1),
                    new Point(x + 1, y + 1)));
        }

        /** Names of COUNTIES by CELL: the least name goes on until nothing changes. */
        Map<Integer, Integer> counties() {
            Map<Integer, Integer> name = new TreeMap<>();
            for (int c : cells()) {
                name.put(c, c);
            }
            boolean changed = true;
            while (changed) {
                changed = false;
                for (int c : cells()) {
                    for (int o : beside(c)) {
                        if (!threads.containsKey(between(c, o)) && name.get(o) < name.get(c)) {
                            name.put(c, name.get(o));
                            changed = true;
                        }
                    }
                }
            }
            return name;
        }

        boolean one(int a, int b) {
            Map<Integer, Integer> name = counties();
            return name.get(a).equals(name.get(b));
        }

        List<End> survey() {
            threads.clear();
            suits.clear();
            List<End> ends = new ArrayList<>();
            for (int i = 0; i < swallows.size(); i++) {
                ends.add(fly(i));
            }
            return ends;
        }

        private End fly(int who) {
            Swallow s = swallows.get(who);
            Point at = new Point(s.x(), s.y());
            int heading = s.heading();
            int steps = 0;
            while (true) {
                if (steps == s.length()) {
                    break;
                }
                String turn = turn(who, at, heading, steps);
                if (turn.equals("stop")) {
                    break;
                }
                if (mirrors.contains(at)) {
                    turn = turn.equals("left") ? "right" : turn.equals("right") ? "left" : turn;
                }
                heading = Math.floorMod(heading + Map.of("ahead", 0, "right", 1, "back", 2, "left", -1).get(turn), 4);
                Point to = at.go(heading);
                if (!point(to)) {
                    break;
                }
                threads.putIfAbsent(Set.of(at, to), new Thread(who, steps));
                at = to;
                sue(who, at, steps);
                steps++;
                if (catAt(at)) {
                    break;
                }
            }
            return new End(at.x(), at.y(), steps, heading);
        }

        private void sue(int who, Point at, int step) {
            int other = 99;
            for (int d = 0; d < 4; d++) {
                Thread t = threads.get(Set.of(at, at.go(d)));
                if (t != null && t.who() != who) {
                    other = Math.min(other, t.who());
                }
            }
            if (other != 99 && suits.size() < 99) {
                suits.add(new Suit(who, other, at.x(), at.y(), step));
            }
        }

        private boolean catAt(Point p) {
            for (int c : cats) {
                if (corners(c).contains(p)) {
                    return true;
                }
            }
            return false;
        }

        private String turn(int who, Point at, int heading, int steps) {
            Map<String, Integer> known = new HashMap<>();
            Point to = at.go(heading);
            // Left of a way that goes (dx, dy) is (dy, -dx), for y goes downwards; corners halved give the CELL.
            int dx = to.x() - at.x();
            int dy = to.y() - at.y();
            int left = cellOf(Math.floorDiv(at.x() + to.x() + dy, 2), Math.floorDiv(at.y() + to.y() - dx, 2));
            int right = cellOf(Math.floorDiv(at.x() + to.x() - dy, 2), Math.floorDiv(at.y() + to.y() + dx, 2));
            known.put("fl", left == NONE ? 0 : seen(left));
            known.put("fr", right == NONE ? 0 : seen(right));
            known.put("pl", ponds.contains(left) ? 1 : 0);
            known.put("pr", ponds.contains(right) ? 1 : 0);
            known.put("thread", threads.containsKey(Set.of(at, to)) ? 1 : 0);
            known.put("rim", point(to) ? 0 : 1);
            known.put("step", steps);
            known.put("rest", swallows.get(who).length() - steps);
            known.put("swallow", who);
            for (Line line : habits.getOrDefault(swallows.get(who).habit(), List.of())) {
                if (line.when() == null || line.when().eval(known) != 0) {
                    return line.turn();
                }
            }
            return "ahead";
        }

        World hatched(int set) {
            World c = copy();
            for (int i = 0; i < hatchings.size(); i++) {
                if ((set & 1 << i) != 0) {
                    c.flies.merge(hatchings.get(i).cell(), hatchings.get(i).flies(), Integer::sum);
                }
            }
            c.survey();
            return c;
        }

        int draw(int m) {
            state = 1664525 * state + 1013904223;
            return (int) (((state & 0xffffffffL) >> 8) % m);
        }
    }

    /** By descent, as the grammar is written. */
    static final class Parser {
        private final String text;
        private int at;
        private String token;
        private int place;
        private int lines;

        Parser(String text) throws Fault {
            this.text = text;
            next();
        }

        private void next() {
            while (at < text.length() && (text.charAt(at) == ' ' || text.charAt(at) == '\n')) {
                at++;
            }
            place = at;
            if (at == text.length()) {
                token = "END";
                return;
            }
            String rest = text.substring(at);
            String run = rest.replaceFirst("(?s)^([A-Za-z]+|[0-9]+|.).*$", "$1");
            at += run.length();
            boolean good = WORDS.contains(run) || run.matches("[0-9]{1,4}") || run.matches("[-;+*/()<=>]");
            token = good ? run : "BAD";
        }

        private String take() {
            String t = token;
            next();
            return t;
        }

        private void want(boolean so) throws Fault {
            if (!so) {
                throw new Fault(1, place);
            }
        }

        List<Line> habit() throws Fault {
            List<Line> all = new ArrayList<>();
            while (!token.equals("END")) {
                want(TURNS.contains(token));
                if (++lines == 17) {
                    throw new Fault(3, place);
                }
                String turn = take();
                Node when = null;
                if (token.equals("when")) {
                    next();
                    when = either(0);
                }
                want(token.equals(";"));
                next();
                all.add(new Line(turn, when));
            }
            return all;
        }

        private Node either(int open) throws Fault {
            Node left = both(open);
            while (token.equals("or")) {
                next();
                Node a = left;
                Node b = both(open);
                left = k -> a.eval(k) != 0 || b.eval(k) != 0 ? 1 : 0;
            }
            return left;
        }

        private Node both(int open) throws Fault {
            Node left = condition(open);
            while (token.equals("and")) {
                next();
                Node a = left;
                Node b = condition(open);
                left = k -> a.eval(k) != 0 && b.eval(k) != 0 ? 1 : 0;
            }
            return left;
        }

        private Node condition(int open) throws Fault {
            if (token.equals("not") || token.equals("(")) {
                if (open == 8) {
                    throw new Fault(3, place);
                }
                if (take().equals("not")) {
                    Node a = condition(open + 1);
                    return k -> a.eval(k) != 0 ? 0 : 1;
                }
                Node a = either(open + 1);
                want(token.equals(")"));
                next();
                return a;
            }
            Node a = sum();
            want(token.matches("[<=>]"));
            String sign = take();
            Node b = sum();
            return k -> {
                int c = Integer.compare(a.eval(k), b.eval(k));
                return (sign.equals("<") ? c < 0 : sign.equals(">") ? c > 0 : c == 0) ? 1 : 0;
            };
        }

        private Node sum() throws Fault {
            Node left = product();
            while (token.equals("+") || token.equals("-")) {
                int factor = take().equals("+") ? 1 : -1;
                Node a = left;
                Node b = product();
                left = k -> a.eval(k) + factor * b.eval(k);
            }
            return left;
        }

        private Node product() throws Fault {
            Node left = unit();
            while (token.equals("*") || token.equals("/")) {
                Node a = left;
                if (take().equals("*")) {
                    Node b = unit();
                    left = k -> a.eval(k) * b.eval(k);
                } else {
                    want(token.matches("[0-9]+"));
                    if (Integer.parseInt(token) == 0) {
                        throw new Fault(2, place);
                    }
                    int by = Integer.parseInt(take());
                    left = k -> a.eval(k) / by;
                }
            }
            return left;
        }

        private Node unit() throws Fault {
            want(token.matches("[0-9]+") || UNITS.contains(token));
            String t = take();
            return UNITS.contains(t) ? k -> k.get(t) : k -> Integer.parseInt(t);
        }
    }

    private World now = new World();
    private World kept = null;
    private String tape = "";
    private int faultKind = 0;
    private int faultPlace = NONE;
    private final List<Integer> changed = new ArrayList<>();

    int state(int v) {
        int was = now.state;
        now.state = v;
        return was;
    }

    boolean land(int w, int h) {
        if (w < 2 || h < 2 || w > 10 || h > 10) {
            return false;
        }
        int state = now.state;
        now = new World();
        now.w = w;
        now.h = h;
        now.state = state;
        changed.clear();
        return true;
    }

    boolean tell(int cell, int what, int v) {
        if (!now.cell(cell) || v < 0 || v > 99 || what < 0 || what > 2 || what == 2 && v > 1) {
            return false;
        }
        if (what == 0) {
            now.flies.put(cell, v);
        } else if (what == 1) {
            now.price.put(cell, v);
        } else if (v == 1) {
            now.cats.add(cell);
        } else {
            now.cats.remove(cell);
        }
        return true;
    }

    private boolean remember(int cell) {
        changed.add(cell);
        if (changed.size() > 10) {
            changed.remove(0);
        }
        return true;
    }

    boolean dig(int cell) {
        return now.cell(cell) && now.ponds.add(cell) && remember(cell);
    }

    boolean fill(int cell) {
        return now.ponds.remove(cell) && remember(cell);
    }

    boolean undo() {
        if (changed.isEmpty()) {
            return false;
        }
        int cell = changed.remove(changed.size() - 1);
        if (!now.ponds.remove(cell)) {
            now.ponds.add(cell);
        }
        return true;
    }

    boolean barn(int cell) {
        return now.cell(cell) && now.barnMoves.putIfAbsent(cell, 0) == null;
    }

    boolean mirror(int x, int y, boolean is) {
        Point p = new Point(x, y);
        if (!now.point(p)) {
            return false;
        }
        if (is) {
            now.mirrors.add(p);
        } else {
            now.mirrors.remove(p);
        }
        return true;
    }

    int nest(int x, int y) {
        Point p = new Point(x, y);
        if (!now.point(p) || now.nests.size() == 6) {
            return NONE;
        }
        now.nests.add(p);
        return now.nests.size() - 1;
    }

    int swallow(int x, int y, int heading, int length, int habit) {
        if (!now.point(new Point(x, y)) || heading < 0 || heading > 3 || length < 0 || length > 60 || habit < 0
                || habit > 3 || now.swallows.size() == 8) {
            return NONE;
        }
        now.swallows.add(new Swallow(x, y, heading, length, habit));
        return now.swallows.size() - 1;
    }

    int feed(int a, int b, int c, int d, int e) {
        if (tape.length() + 20 > 400) {
            return NONE;
        }
        StringBuilder sb = new StringBuilder(tape);
        for (int v : new int[] {a, b, c, d, e}) {
            for (byte x : new java.math.BigInteger(String.valueOf(v & 0xffffffffL | 1L << 32)).toByteArray()) {
                sb.append((char) (x & 255));
            }
            sb.deleteCharAt(sb.length() - 5);
        }
        tape = sb.toString();
        return tape.length();
    }

    boolean end(int n) {
        if (n < 0 || n > tape.length()) {
            return false;
        }
        tape = tape.substring(0, n);
        return true;
    }

    int text(int k) {
        String told = tape;
        tape = "";
        faultKind = 0;
        faultPlace = NONE;
        if (k < 0 || k > 3) {
            return NONE;
        }
        try {
            List<Line> lines = new Parser(told).habit();
            now.habits.put(k, lines);
            return lines.size();
        } catch (Fault f) {
            faultKind = f.kind;
            faultPlace = f.place;
            return NONE;
        }
    }

    int fault(int what) {
        return what == 0 ? faultKind : what == 1 ? faultPlace : NONE;
    }

    int survey() {
        changed.clear();
        now.survey();
        Map<Integer, Integer> names = now.counties();
        for (int barn : now.barnMoves.keySet()) {
            Integer before = now.barnNames.put(barn, names.get(barn));
            if (before != null && !before.equals(names.get(barn))) {
                now.barnMoves.merge(barn, 1, Integer::sum);
            }
        }
        return new HashSet<>(names.values()).size();
    }

    int spring() {
        if (now.year == 9999) {
            return NONE;
        }
        for (int c : now.cells()) {
            now.flies.put(c, now.draw(now.ponds.contains(c) ? 40 : 10));
        }
        now.year++;
        return survey();
    }

    int of(int cell, int what) {
        if (!now.cell(cell)) {
            return NONE;
        }
        Map<Integer, Integer> names = now.counties();
        int size = 0;
        for (int n : names.values()) {
            size += n == names.get(cell) ? 1 : 0;
        }
        return switch (what) {
            case 0 -> now.flies.getOrDefault(cell, 0);
            case 1 -> now.seen(cell);
            case 2 -> now.ponds.contains(cell) ? 1 : 0;
            case 3 -> now.barnMoves.containsKey(cell) ? 1 : 0;
            case 4 -> now.cats.contains(cell) ? 1 : 0;
            case 5 -> names.get(cell);
            case 6 -> size;
            case 7 -> now.barnMoves.getOrDefault(cell, 0);
            case 8 -> now.price.getOrDefault(cell, 1);
            default -> NONE;
        };
    }

    int yard(int x, int y, int heading, int what) {
        Point p = new Point(x, y);
        if (heading < 0 || heading > 3 || what < 0 || what > 1 || !now.point(p) || !now.point(p.go(heading))) {
            return -2;
        }
        Thread t = now.threads.get(Set.of(p, p.go(heading)));
        return t == null ? NONE : what == 0 ? t.who() : t.step();
    }

    int suit(int i, int what) {
        if (i < 0 || i >= now.suits.size()) {
            return NONE;
        }
        Suit s = now.suits.get(i);
        return switch (what) {
            case 0 -> s.who();
            case 1 -> s.other();
            case 2 -> s.x();
            case 3 -> s.y();
            case 4 -> s.step();
            case 5 -> judge(s);
            default -> NONE;
        };
    }

    private int judge(Suit s) {
        int best = NONE;
        int least = Integer.MAX_VALUE;
        for (int i = now.nests.size() - 1; i >= 0; i--) {
            int far = Math.abs(now.nests.get(i).x() - s.x()) + Math.abs(now.nests.get(i).y() - s.y());
            if (far <= least) {
                best = i;
                least = far;
            }
        }
        return best;
    }

    int steal(int swallow, int from, int to) {
        if (swallow < 0 || swallow >= now.swallows.size() || from < 0 || to < from) {
            return NONE;
        }
        int before = now.threads.size();
        now.threads.values().removeIf(t -> t.who() == swallow && t.step() >= from && t.step() <= to);
        return before - now.threads.size();
    }

    int ends(int swallow, int what) {
        if (swallow < 0 || swallow >= now.swallows.size()) {
            return NONE;
        }
        End e = now.copy().survey().get(swallow);
        return switch (what) {
            case 0 -> e.x();
            case 1 -> e.y();
            case 2 -> e.steps();
            case 3 -> e.heading();
            default -> NONE;
        };
    }

    int plan(int a, int b, int what) {
        if (!now.cell(a) || !now.cell(b) || a == b || now.w * now.h > 36 || what < 0 || what > 3) {
            return NONE;
        }
        List<Integer> dry = new ArrayList<>(now.cells());
        dry.removeAll(now.ponds);
        List<List<Integer>> sets = new ArrayList<>();
        sets.add(List.of());
        for (int c : dry) {
            sets.add(List.of(c));
            for (int d : dry) {
                if (d > c) {
                    sets.add(List.of(c, d));
                }
            }
        }
        sets.sort(Comparator.comparingInt(this::priceOf).thenComparingInt(List::size)
                .thenComparingInt(s -> s.isEmpty() ? 0 : s.get(0)).thenComparingInt(s -> s.size() < 2 ? 0 : s.get(1)));
        for (List<Integer> set : sets) {
            World c = now.copy();
            c.ponds.addAll(set);
            c.survey();
            if (c.one(a, b)) {
                return what == 0 ? priceOf(set) : what == 1 ? set.size() : set.size() > what - 2 ? set.get(what - 2)
                        : NONE;
            }
        }
        return NONE;
    }

    private int priceOf(List<Integer> set) {
        int sum = 0;
        for (int c : set) {
            sum += now.price.getOrDefault(c, 1);
        }
        return sum;
    }

    int hatch(int cell, int flies, int chance) {
        if (!now.cell(cell) || flies < 0 || flies > 99 || chance < 0 || chance > 10 || now.hatchings.size() == 6) {
            return NONE;
        }
        for (Hatching o : now.hatchings) {
            if (o.cell() == cell) {
                return NONE;
            }
        }
        now.hatchings.add(new Hatching(cell, flies, chance));
        return now.hatchings.size() - 1;
    }

    int odds(int a, int b) {
        if (!now.cell(a) || !now.cell(b)) {
            return NONE;
        }
        int sum = 0;
        for (int set = 0; set < 1 << now.hatchings.size(); set++) {
            int product = 1;
            for (int i = 0; i < now.hatchings.size(); i++) {
                int chance = now.hatchings.get(i).chance();
                product *= (set & 1 << i) != 0 ? chance : 10 - chance;
            }
            sum += now.hatched(set).one(a, b) ? product : 0;
        }
        return sum;
    }

    boolean claim(int a, int b, boolean one) {
        if (!now.cell(a) || !now.cell(b) || a == b || now.claims.size() == 20) {
            return false;
        }
        now.claims.add(new Claim(a, b, one));
        return true;
    }

    int back(int what) {
        List<Integer> sets = new ArrayList<>();
        for (int set = 0; set < 1 << now.hatchings.size(); set++) {
            Map<Integer, Integer> names = now.hatched(set).counties();
            boolean fits = true;
            for (Claim c : now.claims) {
                fits &= names.get(c.a()).equals(names.get(c.b())) == c.one();
            }
            if (fits) {
                sets.add(set);
            }
        }
        return switch (what) {
            case 0 -> sets.size();
            case 1 -> sets.isEmpty() ? 0 : sets.stream().reduce((p, q) -> p & q).get();
            case 2 -> sets.isEmpty() ? NONE : sets.get(0);
            default -> NONE;
        };
    }

    int part(int a, int b) {
        if (!now.cell(a) || !now.cell(b) || a == b) {
            return NONE;
        }
        List<Set<Point>> free = new ArrayList<>();
        for (int c : now.cells()) {
            for (int o : now.beside(c)) {
                if (o > c && !now.threads.containsKey(now.between(c, o))) {
                    free.add(now.between(c, o));
                }
            }
        }
        return free.size() <= 17 ? partByAll(free, a, b) : partByWays(a, b);
    }

    private int partByAll(List<Set<Point>> free, int a, int b) {
        int least = 99;
        for (int set = 0; set < 1 << free.size(); set++) {
            if (Integer.bitCount(set) > 4 || Integer.bitCount(set) >= least) {
                continue;
            }
            World c = now.copy();
            for (int i = 0; i < free.size(); i++) {
                if ((set & 1 << i) != 0) {
                    c.threads.put(free.get(i), new Thread(0, 0));
                }
            }
            if (!c.one(a, b)) {
                least = Integer.bitCount(set);
            }
        }
        return least;
    }

    private int partByWays(int a, int b) {
        Map<List<Integer>, Integer> room = new LinkedHashMap<>();
        for (int c : now.cells()) {
            for (int o : now.beside(c)) {
                if (!now.threads.containsKey(now.between(c, o))) {
                    room.put(List.of(c, o), 1);
                }
            }
        }
        int ways = 0;
        while (way(room, a, b, new HashSet<>())) {
            ways++;
        }
        return ways;
    }

    private boolean way(Map<List<Integer>, Integer> room, int at, int to, Set<Integer> been) {
        if (at == to) {
            return true;
        }
        been.add(at);
        for (int o : now.beside(at)) {
            if (!been.contains(o) && room.getOrDefault(List.of(at, o), 0) > 0 && way(room, o, to, been)) {
                room.merge(List.of(at, o), -1, Integer::sum);
                room.merge(List.of(o, at), 1, Integer::sum);
                return true;
            }
        }
        return false;
    }

    boolean image(boolean taken) {
        if (taken) {
            kept = now.copy();
            return true;
        }
        if (kept == null) {
            return false;
        }
        now = kept.copy();
        changed.clear();
        return true;
    }

    int look(int what) {
        return switch (what) {
            case 0 -> now.w;
            case 1 -> now.h;
            case 2 -> now.state;
            case 3 -> now.year;
            case 4 -> now.swallows.size();
            case 5 -> now.nests.size();
            case 6 -> new HashSet<>(now.counties().values()).size();
            case 7 -> now.suits.size();
            case 8 -> now.threads.size();
            case 9 -> changed.size();
            case 10, 11, 12, 13 -> now.habits.getOrDefault(what - 10, List.of()).size();
            case 20 -> now.hatchings.size();
            case 21 -> now.claims.size();
            default -> NONE;
        };
    }
}
