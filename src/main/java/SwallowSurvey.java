import java.util.Arrays;

/**
 * Swallows as surveyors of a duchy: shared/DOC.md says what every call answers.
 * Words in capitals are the document's terms.
 */
public final class SwallowSurvey {
    public static final int NONE = -1;

    private static final int LEAST_SIDE = 2;
    private static final int MOST_SIDE = 10;
    private static final int FIRST_SIDE = 6;
    private static final int CELL_ROW = 10;
    private static final int CELLS = 100;
    private static final int POINT_ROW = 11;
    private static final int POINTS = 121;
    private static final int YARDS = 242;

    private static final int MOST_FLIES = 99;
    private static final int MOST_PRICE = 99;
    private static final int MOST_LENGTH = 60;
    private static final int MOST_CHANCE = 10;
    private static final int MOST_YEAR = 9999;
    private static final int MOST_NESTS = 6;
    private static final int MOST_SWALLOWS = 8;
    private static final int MOST_HATCHINGS = 6;
    private static final int MOST_CLAIMS = 20;
    private static final int MOST_SUITS = 99;
    private static final int MOST_UNDONE = 10;
    private static final int MOST_PLAN_CELLS = 36;
    private static final int HABITS = 4;
    private static final int MOST_TAPE = 400;
    private static final int MOST_LINES = 16;
    private static final int MOST_OPEN = 8;

    private static final int POND_FLIES = 20;
    private static final int POND_FLIES_BESIDE = 5;
    private static final int POND_DRAW = 40;
    private static final int DRY_DRAW = 10;

    /** Steps by HEADING: up, right, down, left. */
    private static final int[] DX = {0, 1, 0, -1};
    private static final int[] DY = {-1, 0, 1, 0};
    /** By HEADING, from a POINT to the CELL left of the YARD ahead; that right of it is the next HEADING's. */
    private static final int[] LEFT_X = {-1, 0, 0, -1};
    private static final int[] LEFT_Y = {-1, -1, 0, 0};

    /** What a line of a HABIT does, in the order of KEYWORDS. */
    private static final int AHEAD = 0;
    private static final int LEFT = 1;
    private static final int RIGHT = 2;
    private static final int BACK = 3;
    private static final int STOP = 4;

    /** What a swallow knows when it turns, in the order of KEYWORDS. */
    private static final int FLIES_LEFT = 0;
    private static final int FLIES_RIGHT = 1;
    private static final int POND_LEFT = 2;
    private static final int POND_RIGHT = 3;
    private static final int THREAD = 4;
    private static final int RIM = 5;
    private static final int STEPS_MADE = 6;
    private static final int REST = 7;
    private static final int SWALLOW = 8;
    private static final int VALUES = 9;

    /** Kinds of orders in a HABIT's code; an order is its kind and, above the low four bits, its number. */
    private static final int PUSH_NUMBER = 0;
    private static final int PUSH_VALUE = 1;
    private static final int DIVIDE = 2;
    private static final int NOT = 3;
    private static final int TIMES = 4;
    private static final int PLUS = 5;
    private static final int MINUS = 6;
    private static final int LESS = 7;
    private static final int EQUAL = 8;
    private static final int MORE = 9;
    private static final int AND = 10;
    private static final int OR = 11;
    private static final int TURN = 12;
    private static final int TURN_IF = 13;
    /** Stands among orders that wait for their right side, never in the code. */
    private static final int OPEN = 14;
    /** How strongly each kind of order binds; 0 binds nothing, so that an open bracket stays. */
    private static final int[] STRENGTH = {0, 0, 0, 3, 6, 5, 5, 4, 4, 4, 2, 1, 0, 0, 0};

    /** Nine levels of brackets with one "or" and one "and" waiting in each, and one comparison: 22 at most. */
    private static final int STACK = 32;
    /** The same with eight brackets or nots: 29 at most. */
    private static final int PENDING = 40;

    private static final int FIRST_VALUE_WORD = 5;
    private static final int WHEN_WORD = 14;
    private static final int OR_WORD = 15;
    private static final int AND_WORD = 16;
    private static final int NOT_WORD = 17;
    private static final String KEYWORDS =
            "ahead left right back stop fl fr pl pr thread rim step rest swallow when or and not ";

    private static final int FAULT_PLACE = 1;
    private static final int FAULT_ZERO = 2;
    private static final int FAULT_MANY = 3;

    private final Duchy duchy;
    private final Duchy kept;
    private boolean isKept;
    private final Surveyor surveyor;
    private final Thought thought;
    private final Parter parter;
    private final Reader reader;
    private final int[] tape;
    private int tapeLength;
    private int faultKind;
    private int faultPlace;
    /** CELLS of the latest dig() and fill() calls: going back is the same for both, the POND changes. */
    private final int[] changed;
    private int changedCount;

    public SwallowSurvey() {
        duchy = new Duchy();
        kept = new Duchy();
        surveyor = new Surveyor();
        thought = new Thought();
        parter = new Parter();
        reader = new Reader();
        tape = new int[MOST_TAPE];
        changed = new int[MOST_UNDONE];
        faultPlace = NONE;
        duchy.startAnew(FIRST_SIDE, FIRST_SIDE);
    }

    public int state(int v) {
        int before = duchy.draws;
        duchy.draws = v;
        return before;
    }

    public boolean land(int w, int h) {
        if (!within(w, LEAST_SIDE, MOST_SIDE) || !within(h, LEAST_SIDE, MOST_SIDE)) {
            return false;
        }
        duchy.startAnew(w, h);
        changedCount = 0;
        return true;
    }

    public boolean tell(int cell, int what, int v) {
        if (!duchy.hasCell(cell)) {
            return false;
        }
        switch (what) {
            case 0:
                return putWithin(duchy.flies, cell, v, MOST_FLIES);
            case 1:
                return putWithin(duchy.price, cell, v, MOST_PRICE);
            case 2:
                return putWithin(duchy.cat, cell, v, 1);
            default:
                return false;
        }
    }

    public boolean dig(int cell) {
        return changePond(cell, 0);
    }

    public boolean fill(int cell) {
        return changePond(cell, 1);
    }

    public boolean undo() {
        if (changedCount < 1) {
            return false;
        }
        changedCount--;
        int cell = changed[changedCount];
        if (!duchy.hasCell(cell)) {
            return false;
        }
        duchy.pond[cell] = 1 - duchy.pond[cell];
        return true;
    }

    public boolean barn(int cell) {
        if (!duchy.hasCell(cell) || duchy.barn[cell] != 0) {
            return false;
        }
        duchy.barn[cell] = 1;
        return true;
    }

    public boolean mirror(int x, int y, boolean is) {
        if (!duchy.hasPoint(x, y)) {
            return false;
        }
        duchy.mirror[y * POINT_ROW + x] = is ? 1 : 0;
        return true;
    }

    public int nest(int x, int y) {
        return duchy.hasPoint(x, y) ? duchy.nests.add(x, y, 0, 0, 0) : NONE;
    }

    public int swallow(int x, int y, int heading, int length, int habit) {
        if (!duchy.hasPoint(x, y) || !within(heading, 0, 3)
                || !within(length, 0, MOST_LENGTH) || !within(habit, 0, HABITS - 1)) {
            return NONE;
        }
        return duchy.swallows.add(x, y, heading, length, habit);
    }

    public int feed(int a, int b, int c, int d, int e) {
        if (tapeLength > MOST_TAPE - 20) {
            return NONE;
        }
        putBytes(a);
        putBytes(b);
        putBytes(c);
        putBytes(d);
        putBytes(e);
        return tapeLength;
    }

    public boolean end(int n) {
        if (n < 0 || n > tapeLength) {
            return false;
        }
        tapeLength = n;
        return true;
    }

    public int text(int k) {
        int length = tapeLength;
        tapeLength = 0;
        faultKind = 0;
        faultPlace = NONE;
        if (!within(k, 0, HABITS - 1)) {
            return NONE;
        }
        Habit habit = reader.read(tape, length);
        if (habit == null) {
            faultKind = reader.fault;
            faultPlace = reader.place;
            return NONE;
        }
        duchy.habits[k] = habit;
        return habit.lines;
    }

    public int fault(int what) {
        switch (what) {
            case 0:
                return faultKind;
            case 1:
                return faultPlace;
            default:
                return NONE;
        }
    }

    public int survey() {
        return surveyForGood();
    }

    public int spring() {
        if (duchy.year >= MOST_YEAR) {
            return NONE;
        }
        duchy.drawFlies();
        int counties = surveyForGood();
        duchy.year++;
        return counties;
    }

    public int of(int cell, int what) {
        if (!duchy.hasCell(cell)) {
            return NONE;
        }
        switch (what) {
            case 0:
                return duchy.flies[cell];
            case 1:
                surveyor.sight.take(duchy);
                return surveyor.sight.seen[cell];
            case 2:
                return duchy.pond[cell];
            case 3:
                return duchy.barn[cell];
            case 4:
                return duchy.cat[cell];
            case 5:
                surveyor.counties.mark(duchy, duchy.threads);
                return surveyor.counties.name[cell];
            case 6:
                surveyor.counties.mark(duchy, duchy.threads);
                return surveyor.counties.sizeAt(cell);
            case 7:
                return duchy.moves[cell];
            case 8:
                return duchy.price[cell];
            default:
                return NONE;
        }
    }

    public int yard(int x, int y, int heading, int what) {
        int yard = duchy.yardFrom(x, y, heading);
        if (yard == NONE || !within(what, 0, 1)) {
            return NONE - 1;
        }
        return what == 0 ? duchy.threads.owner[yard] : duchy.threads.step[yard];
    }

    public int suit(int i, int what) {
        Rows suits = duchy.threads.suits;
        if (!within(i, 0, suits.count - 1) || !within(what, 0, 5)) {
            return NONE;
        }
        return what < 5 ? suits.get(i, what) : duchy.nearestNest(suits.get(i, 2), suits.get(i, 3));
    }

    public int steal(int swallow, int from, int to) {
        if (!within(swallow, 0, duchy.swallows.count - 1) || from < 0 || to < from) {
            return NONE;
        }
        return duchy.threads.takeAway(swallow, from, to);
    }

    public int ends(int swallow, int what) {
        if (!within(swallow, 0, duchy.swallows.count - 1) || !within(what, 0, 3)) {
            return NONE;
        }
        return thought.endOf(duchy, surveyor, swallow, what);
    }

    public int plan(int a, int b, int what) {
        if (!duchy.hasCell(a) || !duchy.hasCell(b) || a == b || !within(what, 0, 3)
                || duchy.w * duchy.h > MOST_PLAN_CELLS || !thought.seekPonds(duchy, surveyor, a, b)) {
            return NONE;
        }
        switch (what) {
            case 0:
                return thought.bestPrice;
            case 1:
                return thought.bestCount;
            case 2:
                return thought.bestOne;
            default:
                return thought.bestOther;
        }
    }

    public int hatch(int cell, int flies, int chance) {
        if (!duchy.hasCell(cell) || !within(flies, 0, MOST_FLIES)
                || !within(chance, 0, MOST_CHANCE) || duchy.hasHatching(cell)) {
            return NONE;
        }
        return duchy.hatchings.add(cell, flies, chance, 0, 0);
    }

    public int odds(int a, int b) {
        if (!duchy.hasCell(a) || !duchy.hasCell(b)) {
            return NONE;
        }
        return thought.weighHatchings(duchy, surveyor, a, b);
    }

    public boolean claim(int a, int b, boolean one) {
        if (!duchy.hasCell(a) || !duchy.hasCell(b) || a == b) {
            return false;
        }
        return duchy.claims.add(a, b, one ? 1 : 0, 0, 0) != NONE;
    }

    public int back(int what) {
        if (!within(what, 0, 2)) {
            return NONE;
        }
        thought.tryClaims(duchy, surveyor);
        switch (what) {
            case 0:
                return thought.fitCount;
            case 1:
                return thought.fitCount == 0 ? 0 : thought.fitCommon;
            default:
                return thought.fitLeast;
        }
    }

    public int part(int a, int b) {
        if (!duchy.hasCell(a) || !duchy.hasCell(b) || a == b) {
            return NONE;
        }
        return parter.countYards(duchy, a, b);
    }

    public boolean image(boolean taken) {
        if (taken) {
            kept.copyFrom(duchy);
            isKept = true;
            return true;
        }
        if (!isKept) {
            return false;
        }
        duchy.copyFrom(kept);
        changedCount = 0;
        return true;
    }

    public int look(int what) {
        if (within(what, 10, 10 + HABITS - 1)) {
            return duchy.habitAt(what - 10).lines;
        }
        switch (what) {
            case 0:
                return duchy.w;
            case 1:
                return duchy.h;
            case 2:
                return duchy.draws;
            case 3:
                return duchy.year;
            case 4:
                return duchy.swallows.count;
            case 5:
                return duchy.nests.count;
            case 6:
                surveyor.counties.mark(duchy, duchy.threads);
                return surveyor.counties.count;
            case 7:
                return duchy.threads.suits.count;
            case 8:
                return duchy.threads.countYards();
            case 9:
                return changedCount;
            case 20:
                return duchy.hatchings.count;
            case 21:
                return duchy.claims.count;
            default:
                return NONE;
        }
    }

    private static boolean within(int v, int least, int most) {
        return v >= least && v <= most;
    }

    private static boolean putWithin(int[] row, int cell, int v, int most) {
        if (!within(v, 0, most) || !within(cell, 0, row.length - 1)) {
            return false;
        }
        row[cell] = v;
        return true;
    }

    private boolean changePond(int cell, int from) {
        if (!duchy.hasCell(cell) || duchy.pond[cell] != from) {
            return false;
        }
        duchy.pond[cell] = 1 - from;
        if (changedCount >= MOST_UNDONE) {
            System.arraycopy(changed, 1, changed, 0, MOST_UNDONE - 1);
            changedCount = MOST_UNDONE - 1;
        }
        changed[changedCount] = cell;
        changedCount++;
        return true;
    }

    private void putBytes(int number) {
        for (int shift = 24; shift >= 0; shift -= 8) {
            if (tapeLength < MOST_TAPE) {
                tape[tapeLength] = (number >>> shift) & 255;
                tapeLength++;
            }
        }
    }

    private int surveyForGood() {
        changedCount = 0;
        surveyor.sight.take(duchy);
        surveyor.flyAll(duchy, duchy.threads);
        surveyor.counties.mark(duchy, duchy.threads);
        duchy.countMoves(surveyor.counties);
        return surveyor.counties.count;
    }

    /** Rows of up to five numbers, as they come, up to a limit. */
    private static final class Rows {
        private static final int WIDE = 5;
        private final int most;
        private final int[] items;
        int count;

        Rows(int most) {
            this.most = Math.max(most, 0);
            items = new int[this.most * WIDE];
        }

        int add(int a, int b, int c, int d, int e) {
            if (count >= most) {
                return NONE;
            }
            int at = count * WIDE;
            items[at] = a;
            items[at + 1] = b;
            items[at + 2] = c;
            items[at + 3] = d;
            items[at + 4] = e;
            count++;
            return count - 1;
        }

        boolean isFull() {
            return count >= most;
        }

        int get(int i, int column) {
            if (i < 0 || i >= count || column < 0 || column >= WIDE) {
                return NONE;
            }
            return items[i * WIDE + column];
        }

        void copyFrom(Rows other) {
            int length = Math.min(items.length, other.items.length);
            System.arraycopy(other.items, 0, items, 0, length);
            count = other.count;
        }
    }

    /** Threads on YARDS and the SUITS that came of them. */
    private static final class Threads {
        final int[] owner = new int[YARDS];
        final int[] step = new int[YARDS];
        final Rows suits;

        /** Threads in thought need no SUITS: there most is 0, and none is looked for. */
        Threads(int mostSuits) {
            suits = new Rows(mostSuits);
        }

        void clear() {
            Arrays.fill(owner, NONE);
            Arrays.fill(step, NONE);
            suits.count = 0;
        }

        void copyFrom(Threads other) {
            System.arraycopy(other.owner, 0, owner, 0, YARDS);
            System.arraycopy(other.step, 0, step, 0, YARDS);
            suits.copyFrom(other.suits);
        }

        void lay(int yard, int who, int now) {
            if (yard >= 0 && yard < YARDS && owner[yard] == NONE) {
                owner[yard] = who;
                step[yard] = now;
            }
        }

        /** A SUIT if a thread of another swallow touches the POINT to which this one has come. */
        void sueAt(Duchy duchy, int who, int x, int y, int now) {
            if (suits.isFull()) {
                return;
            }
            int other = NONE;
            for (int heading = 0; heading < 4; heading++) {
                int yard = duchy.yardFrom(x, y, heading);
                int whose = yard == NONE ? NONE : owner[yard];
                if (whose != NONE && whose != who && (other == NONE || whose < other)) {
                    other = whose;
                }
            }
            if (other != NONE) {
                suits.add(who, other, x, y, now);
            }
        }

        int takeAway(int who, int from, int to) {
            int taken = 0;
            for (int yard = 0; yard < YARDS; yard++) {
                if (owner[yard] == who && step[yard] >= from && step[yard] <= to) {
                    owner[yard] = NONE;
                    step[yard] = NONE;
                    taken++;
                }
            }
            return taken;
        }

        int countYards() {
            int found = 0;
            for (int yard = 0; yard < YARDS; yard++) {
                if (owner[yard] != NONE) {
                    found++;
                }
            }
            return found;
        }
    }

    /** All that THE IMAGE holds. */
    private static final class Duchy {
        int w;
        int h;
        int draws;
        int year;
        final int[] flies = new int[CELLS];
        final int[] price = new int[CELLS];
        final int[] cat = new int[CELLS];
        final int[] pond = new int[CELLS];
        final int[] barn = new int[CELLS];
        final int[] moves = new int[CELLS];
        /** The name of a BARN's COUNTY behind the latest SURVEY; NONE if there was none since it came. */
        final int[] lastName = new int[CELLS];
        final int[] mirror = new int[POINTS];
        final Rows nests = new Rows(MOST_NESTS);
        final Rows swallows = new Rows(MOST_SWALLOWS);
        final Rows hatchings = new Rows(MOST_HATCHINGS);
        final Rows claims = new Rows(MOST_CLAIMS);
        final Habit[] habits = new Habit[HABITS];
        private final Habit emptyHabit = new Habit(0, new int[0]);
        final Threads threads = new Threads(MOST_SUITS);

        /** All is as at first but STATE. */
        void startAnew(int width, int height) {
            w = width;
            h = height;
            year = 0;
            Arrays.fill(flies, 0);
            Arrays.fill(price, 1);
            Arrays.fill(cat, 0);
            Arrays.fill(pond, 0);
            Arrays.fill(barn, 0);
            Arrays.fill(moves, 0);
            Arrays.fill(lastName, NONE);
            Arrays.fill(mirror, 0);
            nests.count = 0;
            swallows.count = 0;
            hatchings.count = 0;
            claims.count = 0;
            for (int k = 0; k < HABITS; k++) {
                habits[k] = emptyHabit;
            }
            threads.clear();
        }

        void copyFrom(Duchy other) {
            w = other.w;
            h = other.h;
            draws = other.draws;
            year = other.year;
            System.arraycopy(other.flies, 0, flies, 0, CELLS);
            System.arraycopy(other.price, 0, price, 0, CELLS);
            System.arraycopy(other.cat, 0, cat, 0, CELLS);
            System.arraycopy(other.pond, 0, pond, 0, CELLS);
            System.arraycopy(other.barn, 0, barn, 0, CELLS);
            System.arraycopy(other.moves, 0, moves, 0, CELLS);
            System.arraycopy(other.lastName, 0, lastName, 0, CELLS);
            System.arraycopy(other.mirror, 0, mirror, 0, POINTS);
            nests.copyFrom(other.nests);
            swallows.copyFrom(other.swallows);
            hatchings.copyFrom(other.hatchings);
            claims.copyFrom(other.claims);
            for (int k = 0; k < HABITS; k++) {
                habits[k] = other.habits[k];
            }
            threads.copyFrom(other.threads);
        }

        boolean hasCell(int cell) {
            return cell >= 0 && cell < CELLS && cell % CELL_ROW < w && cell / CELL_ROW < h;
        }

        /** The CELL there, or NONE. */
        int cellAt(int x, int y) {
            return x >= 0 && x < w && y >= 0 && y < h ? y * CELL_ROW + x : NONE;
        }

        boolean hasPoint(int x, int y) {
            return x >= 0 && x <= w && y >= 0 && y <= h;
        }

        /** The place in rows of YARDS, or NONE: each POINT has two, to the right and down. */
        int yardFrom(int x, int y, int heading) {
            if (heading < 0 || heading > 3 || x < 0 || x > w || y < 0 || y > h) {
                return NONE;
            }
            int toX = x + DX[heading];
            int toY = y + DY[heading];
            if (toX < 0 || toX > w || toY < 0 || toY > h) {
                return NONE;
            }
            int leastX = toX < x ? toX : x;
            int leastY = toY < y ? toY : y;
            return (leastY * POINT_ROW + leastX) * 2 + (toX == x ? 1 : 0);
        }

        /** The YARD between a CELL and that beside it. */
        int yardBeside(int x, int y, int side) {
            switch (side) {
                case 0:
                    return yardFrom(x, y, 1);
                case 1:
                    return yardFrom(x + 1, y, 2);
                case 2:
                    return yardFrom(x, y + 1, 1);
                default:
                    return yardFrom(x, y, 2);
            }
        }

        boolean hasMirror(int x, int y) {
            return hasPoint(x, y) && mirror[y * POINT_ROW + x] != 0;
        }

        boolean hasCatAt(int x, int y) {
            for (int corner = 0; corner < 4; corner++) {
                int cell = cellAt(x + LEFT_X[corner], y + LEFT_Y[corner]);
                if (cell != NONE && cat[cell] != 0) {
                    return true;
                }
            }
            return false;
        }

        boolean hasHatching(int cell) {
            for (int i = 0; i < hatchings.count; i++) {
                if (hatchings.get(i, 0) == cell) {
                    return true;
                }
            }
            return false;
        }

        Habit habitAt(int k) {
            Habit told = k >= 0 && k < HABITS ? habits[k] : null;
            return told == null ? emptyHabit : told;
        }

        Habit habitOf(int swallow) {
            return habitAt(swallows.get(swallow, 4));
        }

        int nearestNest(int x, int y) {
            int nearest = NONE;
            int least = 0;
            for (int i = 0; i < nests.count; i++) {
                int far = Math.abs(nests.get(i, 0) - x) + Math.abs(nests.get(i, 1) - y);
                if (nearest == NONE || far < least) {
                    nearest = i;
                    least = far;
                }
            }
            return nearest;
        }

        void drawFlies() {
            for (int y = 0; y < h; y++) {
                for (int x = 0; x < w; x++) {
                    int cell = y * CELL_ROW + x;
                    flies[cell] = draw(pond[cell] != 0 ? POND_DRAW : DRY_DRAW);
                }
            }
        }

        private int draw(int m) {
            draws = draws * 1664525 + 1013904223;
            return m > 0 ? (draws >>> 8) % m : 0;
        }

        void countMoves(Counties counties) {
            for (int cell = 0; cell < CELLS; cell++) {
                if (barn[cell] != 0) {
                    int name = counties.name[cell];
                    if (lastName[cell] != NONE && lastName[cell] != name) {
                        moves[cell]++;
                    }
                    lastName[cell] = name;
                }
            }
        }
    }

    /** COUNTIES as threads part them. */
    private static final class Counties {
        final int[] name = new int[CELLS];
        private final int[] size = new int[CELLS];
        private final int[] queue = new int[CELLS];
        int count;

        void mark(Duchy duchy, Threads threads) {
            Arrays.fill(name, NONE);
            count = 0;
            for (int y = 0; y < duchy.h; y++) {
                for (int x = 0; x < duchy.w; x++) {
                    int cell = y * CELL_ROW + x;
                    // CELLS come in rising order, so the first of a COUNTY is its least.
                    if (name[cell] == NONE) {
                        spreadFrom(duchy, threads, cell);
                        count++;
                    }
                }
            }
        }

        private void spreadFrom(Duchy duchy, Threads threads, int first) {
            name[first] = first;
            queue[0] = first;
            int found = 1;
            for (int i = 0; i < found && i < CELLS; i++) {
                int x = queue[i] % CELL_ROW;
                int y = queue[i] / CELL_ROW;
                for (int side = 0; side < 4; side++) {
                    int cell = duchy.cellAt(x + DX[side], y + DY[side]);
                    int yard = duchy.yardBeside(x, y, side);
                    if (cell != NONE && yard != NONE && name[cell] == NONE
                            && threads.owner[yard] == NONE && found < CELLS) {
                        name[cell] = first;
                        queue[found] = cell;
                        found++;
                    }
                }
            }
            size[first] = found;
        }

        boolean areOne(int a, int b) {
            return a >= 0 && a < CELLS && b >= 0 && b < CELLS && name[a] == name[b];
        }

        int sizeAt(int cell) {
            return cell >= 0 && cell < CELLS && name[cell] != NONE ? size[name[cell]] : 0;
        }
    }

    /** What swallows see of CELLS: a copy, so that PONDS and FLIES can be put there in thought. */
    private static final class Sight {
        final int[] seen = new int[CELLS];
        final int[] pond = new int[CELLS];

        void take(Duchy duchy) {
            System.arraycopy(duchy.flies, 0, seen, 0, CELLS);
            Arrays.fill(pond, 0);
            for (int cell = 0; cell < CELLS; cell++) {
                if (duchy.pond[cell] != 0) {
                    putPonds(duchy, cell, 1);
                }
            }
        }

        /** One POND more at a CELL, or one less. */
        void putPonds(Duchy duchy, int cell, int more) {
            if (!duchy.hasCell(cell)) {
                return;
            }
            pond[cell] += more;
            seen[cell] += more * POND_FLIES;
            for (int side = 0; side < 4; side++) {
                int beside = duchy.cellAt(cell % CELL_ROW + DX[side], cell / CELL_ROW + DY[side]);
                if (beside != NONE) {
                    seen[beside] += more * POND_FLIES_BESIDE;
                }
            }
        }
    }

    /** Flights of all swallows, for good or in thought. */
    private static final class Surveyor {
        final Sight sight = new Sight();
        final Counties counties = new Counties();
        /** By swallow: x, y, STEPS, HEADING. */
        final Rows ends = new Rows(MOST_SWALLOWS);
        private final int[] values = new int[VALUES];
        private final int[] stack = new int[STACK];
        private int x;
        private int y;
        private int heading;

        /** As sight, taken or changed beforehand, has it. */
        void flyAll(Duchy duchy, Threads threads) {
            threads.clear();
            ends.count = 0;
            for (int who = 0; who < duchy.swallows.count; who++) {
                fly(duchy, threads, who);
            }
        }

        private void fly(Duchy duchy, Threads threads, int who) {
            Habit habit = duchy.habitOf(who);
            int length = duchy.swallows.get(who, 3);
            x = duchy.swallows.get(who, 0);
            y = duchy.swallows.get(who, 1);
            heading = duchy.swallows.get(who, 2) & 3;
            boolean flying = true;
            int steps = 0;
            while (flying && steps < length) {
                lookAhead(duchy, threads);
                values[STEPS_MADE] = steps;
                values[REST] = length - steps;
                values[SWALLOW] = who;
                int turn = habit.choose(values, stack);
                heading = headingAfter(turn, duchy.hasMirror(x, y));
                int yard = duchy.yardFrom(x, y, heading);
                flying = turn != STOP && yard != NONE;
                if (flying) {
                    threads.lay(yard, who, steps);
                    x += DX[heading];
                    y += DY[heading];
                    threads.sueAt(duchy, who, x, y, steps);
                    flying = !duchy.hasCatAt(x, y);
                    steps++;
                }
            }
            ends.add(x, y, steps, heading, 0);
        }

        private void lookAhead(Duchy duchy, Threads threads) {
            int right = (heading + 1) & 3;
            int cellLeft = duchy.cellAt(x + LEFT_X[heading], y + LEFT_Y[heading]);
            int cellRight = duchy.cellAt(x + LEFT_X[right], y + LEFT_Y[right]);
            int yard = duchy.yardFrom(x, y, heading);
            values[FLIES_LEFT] = cellLeft == NONE ? 0 : sight.seen[cellLeft];
            values[FLIES_RIGHT] = cellRight == NONE ? 0 : sight.seen[cellRight];
            values[POND_LEFT] = cellLeft == NONE ? 0 : sight.pond[cellLeft];
            values[POND_RIGHT] = cellRight == NONE ? 0 : sight.pond[cellRight];
            values[THREAD] = yard != NONE && threads.owner[yard] != NONE ? 1 : 0;
            values[RIM] = yard == NONE ? 1 : 0;
        }

        private int headingAfter(int turn, boolean mirrored) {
            switch (turn) {
                case LEFT:
                    return (heading + (mirrored ? 1 : 3)) & 3;
                case RIGHT:
                    return (heading + (mirrored ? 3 : 1)) & 3;
                case BACK:
                    return (heading + 2) & 3;
                default:
                    return heading;
            }
        }
    }

    /** A TEXT as orders that are carried out one after another over a stack; it never changes. */
    private static final class Habit {
        final int lines;
        private final int[] code;

        Habit(int lines, int[] code) {
            this.lines = lines;
            this.code = code;
        }

        /** What the first line does whose condition is so; ahead if there is none. */
        int choose(int[] values, int[] stack) {
            int top = 0;
            for (int i = 0; i < code.length; i++) {
                int kind = code[i] & 15;
                int number = code[i] >> 4;
                if (kind == TURN) {
                    return number;
                } else if (kind == PUSH_NUMBER || kind == PUSH_VALUE) {
                    if (top >= stack.length || kind == PUSH_VALUE && number >= values.length) {
                        return AHEAD;
                    }
                    stack[top] = kind == PUSH_NUMBER ? number : values[number];
                    top++;
                } else if (top < 1) {
                    return AHEAD;
                } else if (kind == TURN_IF) {
                    top--;
                    if (stack[top] != 0) {
                        return number;
                    }
                } else if (kind == NOT) {
                    stack[top - 1] = 1 - stack[top - 1];
                } else if (kind == DIVIDE) {
                    stack[top - 1] = number == 0 ? 0 : stack[top - 1] / number;
                } else if (top < 2) {
                    return AHEAD;
                } else {
                    top--;
                    stack[top - 1] = join(kind, stack[top - 1], stack[top]);
                }
            }
            return AHEAD;
        }

        private static int join(int kind, int a, int b) {
            switch (kind) {
                case TIMES:
                    return a * b;
                case PLUS:
                    return a + b;
                case MINUS:
                    return a - b;
                case LESS:
                    return a < b ? 1 : 0;
                case EQUAL:
                    return a == b ? 1 : 0;
                case MORE:
                    return a > b ? 1 : 0;
                case AND:
                    return a & b;
                default:
                    return a | b;
            }
        }
    }

    /** What would be: a SURVEY in thought, on threads of its own. */
    private static final class Thought {
        private final Threads threads = new Threads(0);
        /** CELLS without a POND, in rising order. */
        private final int[] dry = new int[MOST_PLAN_CELLS];
        private int dryCount;
        int bestPrice;
        int bestCount;
        int bestOne;
        int bestOther;
        private boolean isFound;
        int fitCount;
        int fitCommon;
        int fitLeast;

        int endOf(Duchy duchy, Surveyor surveyor, int swallow, int what) {
            surveyor.sight.take(duchy);
            surveyor.flyAll(duchy, threads);
            return surveyor.ends.get(swallow, what);
        }

        /** Whether there is a PLAN; the best then stands in the fields. */
        boolean seekPonds(Duchy duchy, Surveyor surveyor, int a, int b) {
            isFound = false;
            listDry(duchy);
            surveyor.sight.take(duchy);
            tryPonds(duchy, surveyor, NONE, NONE, a, b);
            // One POND ahead of two: what it costs spares the flights of pairs that can't be better.
            for (int i = 0; i < dryCount; i++) {
                tryPonds(duchy, surveyor, dry[i], NONE, a, b);
            }
            for (int i = 0; i < dryCount; i++) {
                for (int j = i + 1; j < dryCount; j++) {
                    tryPonds(duchy, surveyor, dry[i], dry[j], a, b);
                }
            }
            return isFound;
        }

        private void listDry(Duchy duchy) {
            dryCount = 0;
            for (int cell = 0; cell < CELLS; cell++) {
                if (duchy.hasCell(cell) && duchy.pond[cell] == 0 && dryCount < MOST_PLAN_CELLS) {
                    dry[dryCount] = cell;
                    dryCount++;
                }
            }
        }

        private void tryPonds(Duchy duchy, Surveyor surveyor, int one, int other, int a, int b) {
            int price = priceOf(duchy, one) + priceOf(duchy, other);
            // They come by number and then by row, so that of two alike the one found first stays.
            if (isFound && price >= bestPrice) {
                return;
            }
            surveyor.sight.putPonds(duchy, one, 1);
            surveyor.sight.putPonds(duchy, other, 1);
            surveyor.flyAll(duchy, threads);
            surveyor.counties.mark(duchy, threads);
            surveyor.sight.putPonds(duchy, one, -1);
            surveyor.sight.putPonds(duchy, other, -1);
            if (surveyor.counties.areOne(a, b)) {
                isFound = true;
                bestPrice = price;
                bestCount = (one == NONE ? 0 : 1) + (other == NONE ? 0 : 1);
                bestOne = one;
                bestOther = other;
            }
        }

        private static int priceOf(Duchy duchy, int cell) {
            return duchy.hasCell(cell) ? duchy.price[cell] : 0;
        }

        /** Of 10 to the number of HATCHINGS, how many times a and b are in one COUNTY. */
        int weighHatchings(Duchy duchy, Surveyor surveyor, int a, int b) {
            int sum = 0;
            for (int set = 0; set < 1 << duchy.hatchings.count; set++) {
                hatchSet(duchy, surveyor, set);
                if (surveyor.counties.areOne(a, b)) {
                    sum += weightOf(duchy, set);
                }
            }
            return sum;
        }

        private static int weightOf(Duchy duchy, int set) {
            int weight = 1;
            for (int i = 0; i < duchy.hatchings.count; i++) {
                int chance = duchy.hatchings.get(i, 2);
                weight *= (set >> i & 1) != 0 ? chance : MOST_CHANCE - chance;
            }
            return weight;
        }

        private void hatchSet(Duchy duchy, Surveyor surveyor, int set) {
            surveyor.sight.take(duchy);
            for (int i = 0; i < duchy.hatchings.count; i++) {
                int cell = duchy.hatchings.get(i, 0);
                if ((set >> i & 1) != 0 && duchy.hasCell(cell)) {
                    surveyor.sight.seen[cell] += duchy.hatchings.get(i, 1);
                }
            }
            surveyor.flyAll(duchy, threads);
            surveyor.counties.mark(duchy, threads);
        }

        void tryClaims(Duchy duchy, Surveyor surveyor) {
            fitCount = 0;
            fitCommon = NONE;
            fitLeast = NONE;
            for (int set = 0; set < 1 << duchy.hatchings.count; set++) {
                hatchSet(duchy, surveyor, set);
                if (goesWithClaims(duchy, surveyor.counties)) {
                    fitLeast = fitCount == 0 ? set : fitLeast;
                    fitCommon &= set;
                    fitCount++;
                }
            }
        }

        private static boolean goesWithClaims(Duchy duchy, Counties counties) {
            for (int i = 0; i < duchy.claims.count; i++) {
                boolean one = duchy.claims.get(i, 2) != 0;
                if (counties.areOne(duchy.claims.get(i, 0), duchy.claims.get(i, 1)) != one) {
                    return false;
                }
            }
            return true;
        }
    }

    /** The fewest YARDS that part two CELLS are as many as there are ways that share no YARD. */
    private static final class Parter {
        /** By CELL and side: 1 if a way leaves there, -1 if it comes in, else 0. */
        private final int[] flow = new int[CELLS * 4];
        /** By CELL: the side by which it was left ahead of it; NONE if it was not reached. */
        private final int[] cameBy = new int[CELLS];
        private final int[] queue = new int[CELLS];

        int countYards(Duchy duchy, int a, int b) {
            Arrays.fill(flow, 0);
            int ways = 0;
            while (ways < 4 && findWay(duchy, a, b)) {
                keepWay(a, b);
                ways++;
            }
            return ways;
        }

        private boolean findWay(Duchy duchy, int a, int b) {
            Arrays.fill(cameBy, NONE);
            cameBy[a] = 0;
            queue[0] = a;
            int found = 1;
            for (int i = 0; i < found && i < CELLS; i++) {
                int at = queue[i];
                for (int side = 0; side < 4; side++) {
                    int cell = nextFree(duchy, at, side);
                    if (cell != NONE && cameBy[cell] == NONE && found < CELLS) {
                        cameBy[cell] = side;
                        queue[found] = cell;
                        found++;
                    }
                }
            }
            return cameBy[b] != NONE;
        }

        /** The CELL beside, if no thread and no way found ahead bars it; else NONE. */
        private int nextFree(Duchy duchy, int at, int side) {
            int x = at % CELL_ROW;
            int y = at / CELL_ROW;
            int yard = duchy.yardBeside(x, y, side);
            if (yard == NONE || duchy.threads.owner[yard] != NONE || flow[at * 4 + side] > 0) {
                return NONE;
            }
            return duchy.cellAt(x + DX[side], y + DY[side]);
        }

        private void keepWay(int a, int b) {
            int at = b;
            for (int i = 0; i < CELLS && at != a && cameBy[at] != NONE; i++) {
                int side = cameBy[at];
                int before = at - DX[side] - DY[side] * CELL_ROW;
                if (before < 0 || before >= CELLS) {
                    return;
                }
                flow[before * 4 + side]++;
                flow[at * 4 + (side + 2 & 3)]--;
                at = before;
            }
        }
    }

    /** Reads a TEXT from left to right, and stops at its first FAULT. */
    private static final class Reader {
        /** What can stand next. */
        private static final int WANT_LINE = 0;
        private static final int WANT_WHEN = 1;
        private static final int WANT_CONDITION = 2;
        private static final int WANT_UNIT = 3;
        private static final int WANT_DIVISOR = 4;
        private static final int AFTER_UNIT = 5;
        private static final int AFTER_CLOSE = 6;

        /** Kinds of TOKENS beside the signs, which are their own kind. */
        private static final int NO_TOKEN = 0;
        private static final int THE_END = 1;
        private static final int NUMBER = 2;
        private static final int WORD = 3;

        int fault;
        int place;
        private final int[] code = new int[MOST_TAPE];
        private int codeLength;
        private final int[] pending = new int[PENDING];
        private int pendingCount;
        private int state;
        private int lines;
        private int turn;
        /** Brackets and nots that are open; brackets alone. */
        private int open;
        private int brackets;
        /** Whether the comparison's sign has come. */
        private boolean isRight;
        private int token;
        private int tokenValue;
        private int next;

        /** The HABIT; null with a FAULT, which fault and place tell. */
        Habit read(int[] tape, int length) {
            begin();
            int end = Math.min(length, tape.length);
            for (int i = 0; i <= end && fault == 0; i++) {
                skipBlanks(tape, end);
                place = next;
                readToken(tape, end);
                if (token == THE_END && state == WANT_LINE) {
                    return new Habit(lines, Arrays.copyOf(code, codeLength));
                }
                switch (state) {
                    case WANT_LINE:
                        fault = takeLine();
                        break;
                    case WANT_WHEN:
                        fault = takeWhen();
                        break;
                    case WANT_CONDITION:
                        fault = takeCondition();
                        break;
                    case WANT_UNIT:
                        fault = takeUnit();
                        break;
                    case WANT_DIVISOR:
                        fault = takeDivisor();
                        break;
                    case AFTER_UNIT:
                        fault = takeAfterUnit();
                        break;
                    default:
                        fault = takeAfterCondition();
                        break;
                }
            }
            return null;
        }

        private void begin() {
            codeLength = 0;
            pendingCount = 0;
            state = WANT_LINE;
            lines = 0;
            open = 0;
            brackets = 0;
            next = 0;
            fault = 0;
        }

        private void skipBlanks(int[] tape, int end) {
            while (next < end && (tape[next] == 32 || tape[next] == 10)) {
                next++;
            }
        }

        private void readToken(int[] tape, int end) {
            int start = next;
            if (start >= end) {
                token = THE_END;
            } else if (isLetter(tape[start])) {
                while (next < end && isLetter(tape[next])) {
                    next++;
                }
                tokenValue = findWord(tape, start, next - start);
                token = tokenValue == NONE ? NO_TOKEN : WORD;
            } else if (isDigit(tape[start])) {
                tokenValue = 0;
                while (next < end && isDigit(tape[next])) {
                    tokenValue = tokenValue * 10 + tape[next] - '0';
                    next++;
                }
                token = next - start > 4 ? NO_TOKEN : NUMBER;
            } else {
                token = isSign(tape[start]) ? tape[start] : NO_TOKEN;
                next++;
            }
        }

        private static boolean isLetter(int c) {
            return c >= 'a' && c <= 'z' || c >= 'A' && c <= 'Z';
        }

        private static boolean isDigit(int c) {
            return c >= '0' && c <= '9';
        }

        private static boolean isSign(int c) {
            switch (c) {
                case ';':
                case '+':
                case '-':
                case '*':
                case '/':
                case '(':
                case ')':
                case '<':
                case '=':
                case '>':
                    return true;
                default:
                    return false;
            }
        }

        /** Which of KEYWORDS stands there; NONE if none. */
        private static int findWord(int[] tape, int start, int length) {
            int word = 0;
            int at = 0;
            boolean same = true;
            for (int i = 0; i < KEYWORDS.length(); i++) {
                char c = KEYWORDS.charAt(i);
                if (c == ' ') {
                    if (same && at == length) {
                        return word;
                    }
                    word++;
                    at = 0;
                    same = true;
                } else {
                    same = same && at < length && tape[start + at] == c;
                    at++;
                }
            }
            return NONE;
        }

        private boolean isWord(int word) {
            return token == WORD && tokenValue == word;
        }

        /** Each of these answers the FAULT of the TOKEN, or 0. */
        private int takeLine() {
            if (token != WORD || tokenValue > STOP) {
                return FAULT_PLACE;
            }
            if (lines >= MOST_LINES) {
                return FAULT_MANY;
            }
            lines++;
            turn = tokenValue;
            state = WANT_WHEN;
            return 0;
        }

        private int takeWhen() {
            if (token == ';') {
                emit(TURN, turn);
                state = WANT_LINE;
                return 0;
            }
            if (!isWord(WHEN_WORD)) {
                return FAULT_PLACE;
            }
            state = WANT_CONDITION;
            return 0;
        }

        private int takeCondition() {
            boolean isNot = isWord(NOT_WORD);
            if (!isNot && token != '(') {
                isRight = false;
                return takeUnit();
            }
            if (open >= MOST_OPEN) {
                return FAULT_MANY;
            }
            open++;
            if (!isNot) {
                brackets++;
            }
            holdBack(isNot ? NOT : OPEN);
            return 0;
        }

        private int takeUnit() {
            if (token == NUMBER) {
                emit(PUSH_NUMBER, tokenValue);
            } else if (token == WORD && tokenValue >= FIRST_VALUE_WORD && tokenValue < WHEN_WORD) {
                emit(PUSH_VALUE, tokenValue - FIRST_VALUE_WORD);
            } else {
                return FAULT_PLACE;
            }
            state = AFTER_UNIT;
            return 0;
        }

        private int takeDivisor() {
            if (token != NUMBER) {
                return FAULT_PLACE;
            }
            if (tokenValue == 0) {
                return FAULT_ZERO;
            }
            emit(DIVIDE, tokenValue);
            state = AFTER_UNIT;
            return 0;
        }

        private int takeAfterUnit() {
            switch (token) {
                case '*':
                    return joinTo(TIMES, WANT_UNIT);
                case '/':
                    settle(STRENGTH[TIMES]);
                    state = WANT_DIVISOR;
                    return 0;
                case '+':
                    return joinTo(PLUS, WANT_UNIT);
                case '-':
                    return joinTo(MINUS, WANT_UNIT);
                case '<':
                    return compareBy(LESS);
                case '=':
                    return compareBy(EQUAL);
                case '>':
                    return compareBy(MORE);
                default:
                    return isRight ? takeAfterCondition() : FAULT_PLACE;
            }
        }

        private int compareBy(int kind) {
            if (isRight) {
                return FAULT_PLACE;
            }
            isRight = true;
            return joinTo(kind, WANT_UNIT);
        }

        private int takeAfterCondition() {
            if (isWord(OR_WORD)) {
                return joinTo(OR, WANT_CONDITION);
            }
            if (isWord(AND_WORD)) {
                return joinTo(AND, WANT_CONDITION);
            }
            if (token == ')' && brackets > 0) {
                settle(1);
                pendingCount--;
                brackets--;
                open--;
                state = AFTER_CLOSE;
                return 0;
            }
            if (token == ';' && brackets == 0) {
                settle(1);
                emit(TURN_IF, turn);
                state = WANT_LINE;
                return 0;
            }
            return FAULT_PLACE;
        }

        /** What binds no weaker stands to the left and is done first. */
        private int joinTo(int kind, int wanted) {
            settle(STRENGTH[kind]);
            holdBack(kind);
            state = wanted;
            return 0;
        }

        private void settle(int strength) {
            while (pendingCount > 0 && STRENGTH[pending[pendingCount - 1]] >= strength) {
                pendingCount--;
                int kind = pending[pendingCount];
                emit(kind, 0);
                if (kind == NOT) {
                    open--;
                }
            }
        }

        private void holdBack(int kind) {
            if (pendingCount < PENDING) {
                pending[pendingCount] = kind;
                pendingCount++;
            }
        }

        private void emit(int kind, int number) {
            if (codeLength < code.length) {
                code[codeLength] = number << 4 | kind;
                codeLength++;
            }
        }
    }
}
