import java.util.Arrays;

/** Towns under sail: villages on wheels that drift over a plain of salt by the winds of the hours. */
public final class TownsUnderSail {
    public static final int NONE = -1;

    private static final int NO_SUCH = NONE - 1;
    private static final int LEAST_SIDE = 3;
    private static final int SIDE = 12;
    private static final int FIRST_SIDE = 8;
    private static final int CELLS = SIDE * SIDE;
    private static final int FIRST_CRUST = 50;
    private static final int PERCENT = 99;
    private static final int DAY = 24;
    private static final int TENTHS = 10;
    private static final int MOST_SAIL = 3;
    private static final int LAST_TIME = 9999;
    private static final int FIRST_LIMIT = 24;
    private static final int VILLAGES = 10;
    private static final int ROPES = 20;
    private static final int KINDS = 4;
    private static final int CHURCH = 1;
    private static final int THIEVES = 2;
    private static final int TWIN = 3;
    private static final int STUCK_HOURS = 6;
    private static final int MOST_HOURS = 240;
    private static final int KEPT_HOURS = 6;

    private static final int MOST_TAPE = 400;
    private static final int FED = 20;
    private static final int MOST_LINES = 16;
    private static final int MOST_OPEN = 8;
    private static final int MOST_DIGITS = 4;
    // Eight open brackets leave two half-done claims each, and the innermost claim needs six places more.
    private static final int STACK = 32;

    private static final int FAULT_PLACE = 1;
    private static final int FAULT_ZERO = 2;
    private static final int FAULT_TOO_MANY = 3;

    // A token that is a sign is that sign's number; these stand above all signs.
    private static final String WORDS =
        "sail furl when or and not x y way force hour thirst crust near tied village";
    private static final int WORD = 256;
    private static final int SAIL = WORD;
    private static final int FURL = WORD + 1;
    private static final int WHEN = WORD + 2;
    private static final int OR = WORD + 3;
    private static final int AND = WORD + 4;
    private static final int NOT = WORD + 5;
    private static final int FIRST_NAME = WORD + 6;
    private static final int LAST_NAME = WORD + 15;
    private static final int NAMES = LAST_NAME - FIRST_NAME + 1;
    private static final int NEAR = 7;
    private static final int TIED = 8;
    private static final int FINISH = WORD + 16;
    private static final int STRAY = WORD + 17;
    // A token that is a number stands as this and the number.
    private static final int NUMBER = 1000;
    // How closely signs bind, the weakest first.
    private static final int ANY = 0;
    private static final int ALL = 1;
    private static final int SUM = 2;
    private static final int PRODUCT = 3;

    private static final int SOON_HOURS = 72;
    private static final int MEETING_HOURS = 48;
    private static final int MARKET_HOURS = 24;
    private static final int ODDS_HOURS = 12;
    private static final int PLACES_HOURS = 24;

    private static final int[] DX = {0, 1, 1, 1, 0, -1, -1, -1};
    private static final int[] DY = {-1, -1, 0, 1, 1, 1, 0, -1};

    private final Plain ground = new Plain();
    private final Plain kept = new Plain();
    private boolean isKept;
    private final Past past = new Past();
    private final Voyage voyage = new Voyage(ground);
    private final Tape tape = new Tape();
    private final Reader reader = new Reader(tape);
    private final Reach first = new Reach(ground);
    private final Reach second = new Reach(ground);
    private final int[] crowd = new int[CELLS];
    private final Chance chance = new Chance(ground, first);

    public TownsUnderSail() {
    }

    public int state(int v) {
        int was = ground.state;
        ground.state = v;
        return was;
    }

    public boolean plain(int w, int h) {
        if (!within(w, LEAST_SIDE, SIDE) || !within(h, LEAST_SIDE, SIDE)) {
            return false;
        }
        ground.startAnew(w, h);
        past.forget();
        return true;
    }

    public boolean crust(int x, int y, int v) {
        if (!ground.has(x, y) || !within(v, 0, PERCENT)) {
            return false;
        }
        ground.crust[cell(x, y)] = v;
        past.forget();
        return true;
    }

    public boolean well(int x, int y, boolean is) {
        if (!ground.has(x, y)) {
            return false;
        }
        ground.wells[cell(x, y)] = is ? 1 : 0;
        past.forget();
        return true;
    }

    public boolean wind(int hour, int way, int force, int shift) {
        if (!within(hour, 0, DAY - 1) || !within(way, 0, DX.length - 1)
            || !within(force, 0, MOST_SAIL) || !within(shift, 0, TENTHS)) {
            return false;
        }
        ground.ways[hour] = way;
        ground.forces[hour] = force;
        ground.shifts[hour] = shift;
        past.forget();
        return true;
    }

    public int village(int x, int y, int weight, int sail, int kind) {
        if (!ground.has(x, y) || !within(weight, 0, PERCENT) || !within(sail, 0, MOST_SAIL)
            || !within(kind, 0, KINDS - 1)) {
            return NONE;
        }
        if (ground.villageOn(x, y) != NONE || ground.villageCount >= VILLAGES) {
            return NONE;
        }
        int number = ground.villageCount;
        ground.villages[number].startAnew(x, y, weight, sail, kind);
        ground.villageCount++;
        past.forget();
        return number;
    }

    public boolean set(int what, int village, int v) {
        if (what == 3) {
            return setLimit(v);
        }
        Village one = ground.villageOf(village);
        if (one == null) {
            return false;
        }
        if (what == 0 && within(v, 0, 1)) {
            one.anchored = v == 1;
        } else if (what == 1 && within(v, 0, MOST_SAIL)) {
            one.sail = v;
        } else if (what == 2 && within(v, 0, PERCENT)) {
            one.weight = v;
        } else {
            return false;
        }
        past.forget();
        return true;
    }

    private boolean setLimit(int v) {
        if (!within(v, 1, PERCENT)) {
            return false;
        }
        ground.limit = v;
        past.forget();
        return true;
    }

    public int rope(int a, int b, int length) {
        Village one = ground.villageOf(a);
        Village other = ground.villageOf(b);
        if (one == null || other == null || a == b || !within(length, 1, SIDE)
            || length < one.farFrom(other.x, other.y) || ground.ropeCount >= ROPES) {
            return NONE;
        }
        int number = ground.ropeCount;
        ground.ropes[number].startAnew(a, b, length);
        ground.ropeCount++;
        past.forget();
        return number;
    }

    public int feed(int a, int b, int c, int d, int e) {
        if (tape.length + FED > MOST_TAPE) {
            return NONE;
        }
        tape.addNumber(a);
        tape.addNumber(b);
        tape.addNumber(c);
        tape.addNumber(d);
        tape.addNumber(e);
        return tape.length;
    }

    public boolean end(int n) {
        if (!within(n, 0, tape.length)) {
            return false;
        }
        tape.length = n;
        return true;
    }

    public int text(int kind) {
        reader.forgetFault();
        if (within(kind, 0, KINDS - 1)) {
            reader.readOrders();
        }
        tape.length = 0;
        if (!within(kind, 0, KINDS - 1) || reader.fault != 0) {
            return NONE;
        }
        ground.orders[kind] = reader.exchange(ground.orders[kind]);
        return ground.orders[kind].lines;
    }

    public int fault(int what) {
        if (what == 0) {
            return reader.fault;
        }
        return what == 1 ? reader.faultPlace : NONE;
    }

    public int hours(int n) {
        if (!within(n, 1, MOST_HOURS) || ground.time + n > LAST_TIME) {
            return NONE;
        }
        int steps = 0;
        for (int i = 0; i < n; i++) {
            // Earlier hours of this call would be pushed out again before anyone could undo them.
            if (n - i <= KEPT_HOURS) {
                past.keep(ground);
            }
            steps += voyage.passHour();
        }
        return steps;
    }

    public int of(int village, int what) {
        Village one = ground.villageOf(village);
        return one == null ? NO_SUCH : one.told(what);
    }

    public int met(int a, int b) {
        if (a == b || ground.villageOf(a) == null || ground.villageOf(b) == null) {
            return NONE;
        }
        return ground.meetings[pair(a, b)];
    }

    public int tie(int rope, int what) {
        Rope one = ground.ropeOf(rope);
        return one == null ? NONE : one.told(what);
    }

    public int at(int x, int y, int what) {
        if (!ground.has(x, y)) {
            return NO_SUCH;
        }
        switch (what) {
            case 0:
                return ground.crust[cell(x, y)];
            case 1:
                return ground.wells[cell(x, y)];
            case 2:
                return ground.villageOn(x, y);
            default:
                return NO_SUCH;
        }
    }

    public int soon(int village, int x, int y) {
        Village one = ground.villageOf(village);
        if (one == null || !ground.has(x, y)) {
            return NONE;
        }
        first.begin(one, one.x, one.y);
        for (int n = 0; n <= SOON_HOURS; n++) {
            if (first.holds(x, y)) {
                return n;
            }
            first.passHourFromNow(n);
        }
        return NONE;
    }

    public int meeting(int a, int b) {
        Village one = ground.villageOf(a);
        Village other = ground.villageOf(b);
        if (one == null || other == null || a == b) {
            return NONE;
        }
        first.begin(one, one.x, one.y);
        second.begin(other, other.x, other.y);
        for (int n = 0; n <= MEETING_HOURS; n++) {
            if (first.touches(second)) {
                return n;
            }
            first.passHourFromNow(n);
            second.passHourFromNow(n);
        }
        return NONE;
    }

    public int market(int n, int what) {
        if (!within(n, 0, MARKET_HOURS) || !within(what, 0, 2) || ground.villageCount == 0) {
            return NONE;
        }
        Arrays.fill(crowd, 0);
        for (int i = 0; i < ground.villageCount; i++) {
            Village one = ground.villages[i];
            first.begin(one, one.x, one.y);
            for (int k = 0; k < n; k++) {
                first.passHourFromNow(k);
            }
            first.countInto(crowd);
        }
        return mostCrowded(what);
    }

    private int mostCrowded(int what) {
        int best = 0;
        for (int i = 1; i < CELLS; i++) {
            if (crowd[i] > crowd[best]) {
                best = i;
            }
        }
        if (what == 0) {
            return crowd[best];
        }
        return what == 1 ? best % SIDE : best / SIDE;
    }

    public long odds(int village, int x, int y, int n) {
        Village one = ground.villageOf(village);
        if (one == null || !ground.has(x, y) || !within(n, 0, ODDS_HOURS)) {
            return NONE;
        }
        first.begin(one, one.x, one.y);
        return chance.greatest(x, y, n);
    }

    public boolean seen(int village, int x, int y, int time) {
        Village one = ground.villageOf(village);
        if (one == null || !ground.has(x, y) || !within(time, 0, LAST_TIME)) {
            return false;
        }
        one.seenX = x;
        one.seenY = y;
        one.seenTime = time;
        return true;
    }

    public int places(int village, int n, int i) {
        Village one = ground.villageOf(village);
        if (one == null || one.seenTime == NONE || !within(n, 0, PLACES_HOURS) || i < NONE) {
            return NONE;
        }
        first.begin(one, one.seenX, one.seenY);
        for (int k = 0; k < n; k++) {
            first.passHourOf(one.seenTime + k, true);
        }
        return i == NONE ? first.size() : first.cellBy(i);
    }

    public boolean undo() {
        return past.goBack(ground);
    }

    public boolean image(boolean taken) {
        if (taken) {
            kept.copyFrom(ground);
            isKept = true;
            return true;
        }
        if (!isKept) {
            return false;
        }
        ground.copyFrom(kept);
        past.forget();
        return true;
    }

    public int look(int what) {
        switch (what) {
            case 0:
                return ground.width;
            case 1:
                return ground.height;
            case 2:
                return ground.time;
            case 3:
                return ground.villageCount;
            case 4:
                return ground.ropeCount;
            case 5:
                return ground.state;
            case 6:
                return ground.limit;
            case 7:
                return past.count;
            default:
                return lookFurther(what);
        }
    }

    private int lookFurther(int what) {
        if (within(what, 10, 10 + KINDS - 1)) {
            return ground.orders[what - 10].lines;
        }
        if (!within(what, 20, 20 + 3 * DAY - 1)) {
            return NONE;
        }
        int hour = (what - 20) / 3;
        int part = (what - 20) % 3;
        if (part == 0) {
            return ground.ways[hour];
        }
        return part == 1 ? ground.forces[hour] : ground.shifts[hour];
    }

    private static boolean within(int value, int least, int most) {
        return value >= least && value <= most;
    }

    private static int cell(int x, int y) {
        return y * SIDE + x;
    }

    private static int pair(int a, int b) {
        return Math.min(a, b) * VILLAGES + Math.max(a, b);
    }

    private static int far(int ax, int ay, int bx, int by) {
        return Math.max(Math.abs(ax - bx), Math.abs(ay - by));
    }

    /** A village as it was told, as the hours left it, and where it was seen. */
    private static final class Village {
        final int number;
        int x;
        int y;
        int weight;
        int sail;
        int kind;
        boolean anchored;
        int dug;
        int thirst;
        int dry;
        int steps;
        int sank;
        int seenX;
        int seenY;
        int seenTime = NONE;

        Village(int number) {
            this.number = number;
        }

        void startAnew(int newX, int newY, int newWeight, int newSail, int newKind) {
            x = newX;
            y = newY;
            weight = newWeight;
            sail = newSail;
            kind = newKind;
            anchored = false;
            dug = 0;
            thirst = 0;
            dry = 0;
            steps = 0;
            sank = 0;
            seenTime = NONE;
        }

        void copyFrom(Village other) {
            weight = other.weight;
            sail = other.sail;
            kind = other.kind;
            anchored = other.anchored;
            seenX = other.seenX;
            seenY = other.seenY;
            seenTime = other.seenTime;
            copyCourse(other);
        }

        /** Only what an hour can change: an hour undone leaves alone where the village was seen. */
        void copyCourse(Village other) {
            x = other.x;
            y = other.y;
            dug = other.dug;
            thirst = other.thirst;
            dry = other.dry;
            steps = other.steps;
            sank = other.sank;
        }

        int farFrom(int otherX, int otherY) {
            return far(x, y, otherX, otherY);
        }

        int stepsBy(int way, int force) {
            int most = Math.min(sail, force);
            if (kind == THIEVES) {
                return 2 * most;
            }
            if (kind == CHURCH && way % 2 == 1) {
                return 0;
            }
            return kind == TWIN ? Math.min(most, 1) : most;
        }

        int told(int what) {
            switch (what) {
                case 0:
                    return x;
                case 1:
                    return y;
                case 2:
                    return weight;
                case 3:
                    return sail;
                case 4:
                    return kind;
                case 5:
                    return anchored ? 1 : 0;
                case 6:
                    return dug;
                case 7:
                    return thirst;
                case 8:
                    return dry;
                case 9:
                    return steps;
                case 10:
                    return sank;
                default:
                    return NO_SUCH;
            }
        }
    }

    /** A rope between two villages, by their numbers. */
    private static final class Rope {
        int one;
        int other;
        int length;
        boolean torn;

        Rope() {
        }

        void startAnew(int a, int b, int newLength) {
            one = a;
            other = b;
            length = newLength;
            torn = false;
        }

        void copyFrom(Rope from) {
            startAnew(from.one, from.other, from.length);
            torn = from.torn;
        }

        boolean holdsOn(int village) {
            return !torn && (one == village || other == village);
        }

        int otherThan(int village) {
            return one == village ? other : one;
        }

        int told(int what) {
            switch (what) {
                case 0:
                    return one;
                case 1:
                    return other;
                case 2:
                    return length;
                case 3:
                    return torn ? 1 : 0;
                default:
                    return NONE;
            }
        }
    }

    /** The orders of a kind as lines of code for a stack: numbers as they are, all else below 0. */
    private static final class Orders {
        int lines;
        int size;
        final int[] sails = new int[MOST_LINES];
        final int[] ends = new int[MOST_LINES];
        final int[] code = new int[MOST_TAPE];
        int names;
        final int[] stack = new int[STACK];
        int top;

        Orders() {
        }

        void clear() {
            lines = 0;
            size = 0;
            names = 0;
        }

        void copyFrom(Orders other) {
            lines = other.lines;
            size = other.size;
            names = other.names;
            System.arraycopy(other.sails, 0, sails, 0, MOST_LINES);
            System.arraycopy(other.ends, 0, ends, 0, MOST_LINES);
            System.arraycopy(other.code, 0, code, 0, MOST_TAPE);
        }

        void addCode(int what) {
            if (size >= 0 && size < MOST_TAPE) {
                code[size] = what;
                size++;
            }
            if (what <= -FIRST_NAME) {
                names |= 1 << (-what - FIRST_NAME);
            }
        }

        void addLine(boolean isSail) {
            if (within(lines, 0, MOST_LINES - 1)) {
                sails[lines] = isSail ? 1 : 0;
                ends[lines] = size;
                lines++;
            }
        }

        boolean askFor(int name) {
            return (names >> name & 1) == 1;
        }

        boolean tellToSail(int[] values) {
            int start = 0;
            for (int line = 0; line < lines; line++) {
                int end = ends[line];
                if (start == end || isSo(start, end, values)) {
                    return sails[line] == 1;
                }
                start = end;
            }
            return false;
        }

        private boolean isSo(int start, int end, int[] values) {
            top = 0;
            for (int i = start; i < end; i++) {
                int what = -code[i];
                if (what <= 0) {
                    push(-what);
                } else if (what == NOT) {
                    push(1 - pop());
                } else if (what >= FIRST_NAME) {
                    push(within(what, FIRST_NAME, LAST_NAME) ? values[what - FIRST_NAME] : 0);
                } else {
                    int right = pop();
                    push(joined(pop(), what, right));
                }
            }
            return pop() != 0;
        }

        private void push(int value) {
            if (within(top, 0, STACK - 1)) {
                stack[top] = value;
                top++;
            }
        }

        private int pop() {
            if (!within(top, 1, STACK)) {
                return 0;
            }
            top--;
            return stack[top];
        }

        private int joined(int left, int sign, int right) {
            switch (sign) {
                case '+':
                    return left + right;
                case '-':
                    return left - right;
                case '*':
                    return left * right;
                case '/':
                    return right == 0 ? 0 : left / right;
                case '<':
                    return left < right ? 1 : 0;
                case '=':
                    return left == right ? 1 : 0;
                case '>':
                    return left > right ? 1 : 0;
                case AND:
                    return left & right;
                default:
                    return left | right;
            }
        }
    }

    /** All that an image holds: the plain, its winds, villages, ropes and orders. */
    private static final class Plain {
        int width;
        int height;
        int time;
        int state;
        int limit;
        int villageCount;
        int ropeCount;
        final int[] crust = new int[CELLS];
        final int[] wells = new int[CELLS];
        final int[] ways = new int[DAY];
        final int[] forces = new int[DAY];
        final int[] shifts = new int[DAY];
        final Village[] villages = new Village[VILLAGES];
        final Rope[] ropes = new Rope[ROPES];
        final int[] meetings = new int[VILLAGES * VILLAGES];
        final Orders[] orders = new Orders[KINDS];

        Plain() {
            for (int i = 0; i < VILLAGES; i++) {
                villages[i] = new Village(i);
            }
            for (int i = 0; i < ROPES; i++) {
                ropes[i] = new Rope();
            }
            for (int i = 0; i < KINDS; i++) {
                orders[i] = new Orders();
            }
            startAnew(FIRST_SIDE, FIRST_SIDE);
        }

        /** The state of draws is left as it is. */
        void startAnew(int newWidth, int newHeight) {
            width = newWidth;
            height = newHeight;
            time = 0;
            limit = FIRST_LIMIT;
            villageCount = 0;
            ropeCount = 0;
            Arrays.fill(crust, FIRST_CRUST);
            Arrays.fill(wells, 0);
            Arrays.fill(ways, 0);
            Arrays.fill(forces, 1);
            Arrays.fill(shifts, 0);
            Arrays.fill(meetings, 0);
            for (int i = 0; i < KINDS; i++) {
                orders[i].clear();
            }
        }

        void copyFrom(Plain other) {
            width = other.width;
            height = other.height;
            time = other.time;
            state = other.state;
            limit = other.limit;
            villageCount = other.villageCount;
            ropeCount = other.ropeCount;
            System.arraycopy(other.crust, 0, crust, 0, CELLS);
            System.arraycopy(other.wells, 0, wells, 0, CELLS);
            System.arraycopy(other.ways, 0, ways, 0, DAY);
            System.arraycopy(other.forces, 0, forces, 0, DAY);
            System.arraycopy(other.shifts, 0, shifts, 0, DAY);
            System.arraycopy(other.meetings, 0, meetings, 0, VILLAGES * VILLAGES);
            for (int i = 0; i < VILLAGES; i++) {
                villages[i].copyFrom(other.villages[i]);
            }
            for (int i = 0; i < ROPES; i++) {
                ropes[i].copyFrom(other.ropes[i]);
            }
            for (int i = 0; i < KINDS; i++) {
                orders[i].copyFrom(other.orders[i]);
            }
        }

        boolean has(int x, int y) {
            return within(x, 0, width - 1) && within(y, 0, height - 1);
        }

        Village villageOf(int number) {
            return within(number, 0, villageCount - 1) ? villages[number] : null;
        }

        Rope ropeOf(int number) {
            return within(number, 0, ropeCount - 1) ? ropes[number] : null;
        }

        int villageOn(int x, int y) {
            for (int i = 0; i < villageCount; i++) {
                if (villages[i].x == x && villages[i].y == y) {
                    return i;
                }
            }
            return NONE;
        }

        boolean wellNear(int x, int y) {
            int lastX = Math.min(x + 1, width - 1);
            int lastY = Math.min(y + 1, height - 1);
            for (int wy = Math.max(y - 1, 0); wy <= lastY; wy++) {
                for (int wx = Math.max(x - 1, 0); wx <= lastX; wx++) {
                    if (wells[cell(wx, wy)] == 1) {
                        return true;
                    }
                }
            }
            return false;
        }

        int drawOfTen() {
            state = state * 1664525 + 1013904223;
            return (state >>> 8) % TENTHS;
        }
    }

    /** What one hour can change, as it was ahead of that hour. */
    private static final class Trace {
        int time;
        int state;
        final int[] crust = new int[CELLS];
        final int[] meetings = new int[VILLAGES * VILLAGES];
        final boolean[] torn = new boolean[ROPES];
        final Village[] villages = new Village[VILLAGES];

        Trace() {
            for (int i = 0; i < VILLAGES; i++) {
                villages[i] = new Village(i);
            }
        }

        void take(Plain from) {
            time = from.time;
            state = from.state;
            System.arraycopy(from.crust, 0, crust, 0, CELLS);
            System.arraycopy(from.meetings, 0, meetings, 0, VILLAGES * VILLAGES);
            for (int i = 0; i < ROPES; i++) {
                torn[i] = from.ropes[i].torn;
            }
            for (int i = 0; i < VILLAGES; i++) {
                villages[i].copyCourse(from.villages[i]);
            }
        }

        void giveBack(Plain to) {
            to.time = time;
            to.state = state;
            System.arraycopy(crust, 0, to.crust, 0, CELLS);
            System.arraycopy(meetings, 0, to.meetings, 0, VILLAGES * VILLAGES);
            for (int i = 0; i < ROPES; i++) {
                to.ropes[i].torn = torn[i];
            }
            for (int i = 0; i < VILLAGES; i++) {
                to.villages[i].copyCourse(villages[i]);
            }
        }
    }

    /** The latest hours, in a ring of traces. */
    private static final class Past {
        final Trace[] ring = new Trace[KEPT_HOURS];
        int count;
        int next;

        Past() {
            for (int i = 0; i < KEPT_HOURS; i++) {
                ring[i] = new Trace();
            }
        }

        void forget() {
            count = 0;
        }

        void keep(Plain ground) {
            int place = Math.floorMod(next, KEPT_HOURS);
            ring[place].take(ground);
            next = Math.floorMod(place + 1, KEPT_HOURS);
            count = Math.min(count + 1, KEPT_HOURS);
        }

        boolean goBack(Plain ground) {
            if (count == 0) {
                return false;
            }
            next = Math.floorMod(next - 1, KEPT_HOURS);
            ring[next].giveBack(ground);
            count--;
            return true;
        }
    }

    /** The bytes that were fed, and the tokens that they are. */
    private static final class Tape {
        final byte[] bytes = new byte[MOST_TAPE];
        int length;
        final int[] tokens = new int[MOST_TAPE + 1];
        final int[] places = new int[MOST_TAPE + 1];

        Tape() {
        }

        void addNumber(int number) {
            for (int shift = 24; shift >= 0; shift -= 8) {
                if (within(length, 0, MOST_TAPE - 1)) {
                    bytes[length] = (byte) (number >>> shift);
                    length++;
                }
            }
        }

        private int signAt(int i) {
            return within(i, 0, length - 1) && i < MOST_TAPE ? bytes[i] & 255 : NONE;
        }

        /** Behind the last token stands the finish, at the text's length. */
        void split() {
            int next = 0;
            int count = 0;
            for (int i = 0; i < MOST_TAPE && next < length; i++) {
                int sign = signAt(next);
                int behind = endOfRun(next);
                if (sign != ' ' && sign != '\n') {
                    tokens[count] = tokenOf(next, behind);
                    places[count] = next;
                    count++;
                }
                next = behind;
            }
            tokens[count] = FINISH;
            places[count] = length;
        }

        private int endOfRun(int from) {
            boolean letters = isLetter(signAt(from));
            boolean digits = isDigit(signAt(from));
            int to = from + 1;
            for (int i = 0; i < MOST_TAPE; i++) {
                int sign = signAt(to);
                if (!(letters && isLetter(sign)) && !(digits && isDigit(sign))) {
                    return to;
                }
                to++;
            }
            return to;
        }

        private int tokenOf(int from, int to) {
            int sign = signAt(from);
            if (isLetter(sign)) {
                return wordOf(from, to);
            }
            if (isDigit(sign)) {
                return numberOf(from, to);
            }
            boolean isSign = sign == ';' || sign == '+' || sign == '-' || sign == '*' || sign == '/'
                || sign == '(' || sign == ')' || sign == '<' || sign == '=' || sign == '>';
            return isSign ? sign : STRAY;
        }

        private int numberOf(int from, int to) {
            if (to - from > MOST_DIGITS) {
                return STRAY;
            }
            int value = 0;
            for (int i = from; i < to; i++) {
                value = 10 * value + signAt(i) - '0';
            }
            return NUMBER + value;
        }

        private int wordOf(int from, int to) {
            int word = WORD;
            int same = from;
            boolean fits = true;
            for (int i = 0; i <= WORDS.length(); i++) {
                char letter = i < WORDS.length() ? WORDS.charAt(i) : ' ';
                if (letter != ' ') {
                    fits = fits && same < to && signAt(same) == letter;
                    same++;
                } else if (fits && same == to) {
                    return word;
                } else {
                    word++;
                    same = from;
                    fits = true;
                }
            }
            return STRAY;
        }

        private static boolean isLetter(int sign) {
            return within(sign, 'a', 'z') || within(sign, 'A', 'Z');
        }

        private static boolean isDigit(int sign) {
            return within(sign, '0', '9');
        }
    }

    /** Reads the tape into orders, up to its first fault. */
    private static final class Reader {
        final Tape tape;
        Orders orders = new Orders();
        int next;
        int token;
        int place;
        int fault;
        int faultPlace = NONE;

        Reader(Tape tape) {
            this.tape = tape;
        }

        void forgetFault() {
            fault = 0;
            faultPlace = NONE;
        }

        /** Gives out what was read; the old orders are written over by the next text. */
        Orders exchange(Orders old) {
            Orders read = orders;
            orders = old;
            return read;
        }

        void readOrders() {
            tape.split();
            orders.clear();
            next = 0;
            advance();
            for (int i = 0; i <= MOST_LINES && token != FINISH && fault == 0; i++) {
                readLine();
            }
        }

        private void advance() {
            if (next >= 0 && next <= MOST_TAPE) {
                token = tape.tokens[next];
                place = tape.places[next];
                next++;
            }
        }

        /** After a fault no token fits anywhere, so that all that is open comes to its end. */
        private void fail(int what) {
            if (fault == 0) {
                fault = what;
                faultPlace = place;
            }
            token = STRAY;
        }

        private void expect(int wanted) {
            if (token == wanted) {
                advance();
            } else {
                fail(FAULT_PLACE);
            }
        }

        private void readLine() {
            boolean isSail = token == SAIL;
            if (!isSail && token != FURL) {
                fail(FAULT_PLACE);
                return;
            }
            if (orders.lines >= MOST_LINES) {
                fail(FAULT_TOO_MANY);
                return;
            }
            advance();
            if (token == WHEN) {
                advance();
                readJoined(ANY, 0);
            }
            expect(';');
            orders.addLine(isSail);
        }

        /** How deep this goes is kept low by the count of what is open. */
        private void readJoined(int level, int open) {
            readPart(level, open);
            for (int i = 0; i < MOST_TAPE && levelOf(token) == level; i++) {
                int sign = token;
                advance();
                if (sign == '/') {
                    checkDivisor();
                }
                readPart(level, open);
                orders.addCode(-sign);
            }
        }

        private void readPart(int level, int open) {
            switch (level) {
                case ANY:
                    readJoined(ALL, open);
                    break;
                case ALL:
                    readClaim(open);
                    break;
                case SUM:
                    readJoined(PRODUCT, open);
                    break;
                default:
                    readUnit();
                    break;
            }
        }

        private void readClaim(int open) {
            int opener = token;
            if (opener != NOT && opener != '(') {
                readComparison(open);
                return;
            }
            if (open >= MOST_OPEN) {
                fail(FAULT_TOO_MANY);
                return;
            }
            advance();
            if (opener == NOT) {
                readClaim(open + 1);
                orders.addCode(-NOT);
            } else {
                readJoined(ANY, open + 1);
                expect(')');
            }
        }

        private void readComparison(int open) {
            readJoined(SUM, open);
            int sign = token;
            if (sign != '<' && sign != '=' && sign != '>') {
                fail(FAULT_PLACE);
                return;
            }
            advance();
            readJoined(SUM, open);
            orders.addCode(-sign);
        }

        private void checkDivisor() {
            if (token < NUMBER) {
                fail(FAULT_PLACE);
            } else if (token == NUMBER) {
                fail(FAULT_ZERO);
            }
        }

        private void readUnit() {
            if (token >= NUMBER) {
                orders.addCode(token - NUMBER);
                advance();
            } else if (within(token, FIRST_NAME, LAST_NAME)) {
                orders.addCode(-token);
                advance();
            } else {
                fail(FAULT_PLACE);
            }
        }

        private static int levelOf(int sign) {
            switch (sign) {
                case OR:
                    return ANY;
                case AND:
                    return ALL;
                case '+':
                case '-':
                    return SUM;
                case '*':
                case '/':
                    return PRODUCT;
                default:
                    return NONE;
            }
        }
    }

    /** Lets an hour go by on the plain. */
    private static final class Voyage {
        final Plain ground;
        final int[] values = new int[NAMES];
        int way;
        int force;

        Voyage(Plain ground) {
            this.ground = ground;
        }

        int passHour() {
            int hour = Math.floorMod(ground.time, DAY);
            way = ground.ways[hour];
            force = ground.forces[hour];
            int shift = ground.shifts[hour];
            if (shift > 0 && ground.drawOfTen() < shift) {
                way = turned(way);
            }
            int steps = 0;
            for (int i = 0; i < ground.villageCount; i++) {
                Village one = ground.villages[i];
                boolean stays = one.anchored || ground.time < one.dug;
                if (!stays && isToldToSail(one)) {
                    steps += sailOut(one);
                }
            }
            countMeetings();
            for (int i = 0; i < ground.villageCount; i++) {
                drink(ground.villages[i]);
            }
            ground.time++;
            return steps;
        }

        private boolean isToldToSail(Village one) {
            if (!within(one.kind, 0, KINDS - 1) || !ground.has(one.x, one.y)) {
                return false;
            }
            Orders orders = ground.orders[one.kind];
            values[0] = one.x;
            values[1] = one.y;
            values[2] = way;
            values[3] = force;
            values[4] = Math.floorMod(ground.time, DAY);
            values[5] = one.thirst;
            values[6] = ground.crust[cell(one.x, one.y)];
            values[NEAR] = orders.askFor(NEAR) ? countNear(one) : 0;
            values[TIED] = orders.askFor(TIED) ? countTied(one) : 0;
            values[9] = one.number;
            return orders.tellToSail(values);
        }

        private int countNear(Village one) {
            int near = 0;
            for (int i = 0; i < ground.villageCount; i++) {
                Village other = ground.villages[i];
                if (i != one.number && one.farFrom(other.x, other.y) <= 1) {
                    near++;
                }
            }
            return near;
        }

        private int countTied(Village one) {
            int tied = 0;
            for (int i = 0; i < ground.ropeCount; i++) {
                if (ground.ropes[i].holdsOn(one.number)) {
                    tied++;
                }
            }
            return tied;
        }

        private int sailOut(Village one) {
            int most = one.stepsBy(way, force);
            boolean goes = within(way, 0, DX.length - 1);
            int made = 0;
            for (int i = 0; i < most && goes; i++) {
                int x = one.x + DX[way];
                int y = one.y + DY[way];
                goes = ground.has(x, y) && ground.villageOn(x, y) == NONE && !isHeld(one, x, y);
                if (goes) {
                    made++;
                    goes = step(one, x, y);
                }
            }
            one.steps += made;
            return made;
        }

        /** Ropes that tear ahead of one that holds stay torn. */
        private boolean isHeld(Village one, int x, int y) {
            for (int i = 0; i < ground.ropeCount; i++) {
                Rope rope = ground.ropes[i];
                Village other = ground.villageOf(rope.otherThan(one.number));
                if (rope.holdsOn(one.number) && other != null && rope.length < other.farFrom(x, y)) {
                    if (other.weight >= one.weight) {
                        return true;
                    }
                    rope.torn = true;
                }
            }
            return false;
        }

        /** Whether it can go on from there; it can't once it has sunk in. */
        private boolean step(Village one, int x, int y) {
            if (!ground.has(one.x, one.y) || !ground.has(x, y)) {
                return false;
            }
            int left = cell(one.x, one.y);
            ground.crust[left] = Math.max(ground.crust[left] - 1, 0);
            one.x = x;
            one.y = y;
            if (ground.crust[cell(x, y)] >= one.weight) {
                return true;
            }
            one.dug = ground.time + STUCK_HOURS;
            one.sank++;
            return false;
        }

        private void countMeetings() {
            for (int a = 0; a < ground.villageCount; a++) {
                Village one = ground.villages[a];
                for (int b = a + 1; b < ground.villageCount; b++) {
                    if (one.farFrom(ground.villages[b].x, ground.villages[b].y) <= 1) {
                        ground.meetings[pair(a, b)]++;
                    }
                }
            }
        }

        private void drink(Village one) {
            if (ground.wellNear(one.x, one.y)) {
                one.thirst = 0;
                return;
            }
            one.thirst++;
            if (one.thirst == ground.limit + 1) {
                one.dry++;
            }
        }

        static int turned(int way) {
            return Math.floorMod(way + 1, DX.length);
        }
    }

    /** In thought: all cells at which a village alone can be, a row of bits for each y. */
    private static final class Reach {
        final int[] open = new int[SIDE];
        final int[] held = new int[SIDE];
        final int[] gained = new int[SIDE];
        final int[] moving = new int[SIDE];
        final int[] moved = new int[SIDE];
        final Plain ground;
        Village home;

        Reach(Plain ground) {
            this.ground = ground;
            home = ground.villages[0];
        }

        void begin(Village village, int x, int y) {
            home = village;
            Arrays.fill(open, 0);
            Arrays.fill(held, 0);
            for (int cy = 0; cy < ground.height; cy++) {
                for (int cx = 0; cx < ground.width; cx++) {
                    if (ground.crust[cell(cx, cy)] >= village.weight) {
                        open[cy] |= 1 << cx;
                    }
                }
            }
            if (ground.has(x, y)) {
                held[y] = 1 << x;
            }
        }

        boolean isStuck(int hoursFromNow) {
            return ground.time + hoursFromNow < home.dug;
        }

        void passHourFromNow(int hoursFromNow) {
            if (!isStuck(hoursFromNow)) {
                passHourOf(ground.time + hoursFromNow, false);
            }
        }

        void passHourOf(int time, boolean mayShift) {
            int hour = Math.floorMod(time, DAY);
            int way = ground.ways[hour];
            int force = ground.forces[hour];
            int shift = mayShift ? ground.shifts[hour] : 0;
            System.arraycopy(held, 0, gained, 0, SIDE);
            if (shift < TENTHS) {
                gainBy(way, force);
            }
            if (shift > 0) {
                gainBy(Voyage.turned(way), force);
            }
            System.arraycopy(gained, 0, held, 0, SIDE);
        }

        private void gainBy(int way, int force) {
            int steps = home.stepsBy(way, force);
            if (steps == 0 || !within(way, 0, DX.length - 1)) {
                return;
            }
            System.arraycopy(held, 0, moving, 0, SIDE);
            for (int i = 0; i < steps; i++) {
                stepAll(DX[way], DY[way]);
            }
            for (int y = 0; y < SIDE; y++) {
                gained[y] |= moving[y];
            }
        }

        /** One step of every cell at once; those that can't go on stay where they are. */
        private void stepAll(int dx, int dy) {
            Arrays.fill(moved, 0);
            for (int y = 0; y < SIDE; y++) {
                int toY = y + dy;
                int going = 0;
                if (within(toY, 0, SIDE - 1)) {
                    going = moving[y] & pushed(open[toY], -dx);
                    moved[toY] |= pushed(going, dx);
                }
                moved[y] |= moving[y] & ~going;
            }
            System.arraycopy(moved, 0, moving, 0, SIDE);
        }

        boolean isOpen(int x, int y) {
            return ground.has(x, y) && (open[y] >> x & 1) == 1;
        }

        boolean holds(int x, int y) {
            return ground.has(x, y) && (held[y] >> x & 1) == 1;
        }

        boolean touches(Reach other) {
            for (int y = 0; y < SIDE; y++) {
                int around = other.held[y];
                if (y > 0) {
                    around |= other.held[y - 1];
                }
                if (y < SIDE - 1) {
                    around |= other.held[y + 1];
                }
                if ((held[y] & (around | around << 1 | around >> 1)) != 0) {
                    return true;
                }
            }
            return false;
        }

        void countInto(int[] counts) {
            for (int y = 0; y < SIDE; y++) {
                for (int x = 0; x < SIDE; x++) {
                    int i = cell(x, y);
                    if (i < counts.length) {
                        counts[i] += held[y] >> x & 1;
                    }
                }
            }
        }

        int size() {
            int size = 0;
            for (int y = 0; y < SIDE; y++) {
                size += Integer.bitCount(held[y]);
            }
            return size;
        }

        int cellBy(int i) {
            int left = i;
            for (int y = 0; y < SIDE; y++) {
                for (int x = 0; x < SIDE; x++) {
                    if ((held[y] >> x & 1) == 1) {
                        if (left == 0) {
                            return 100 * y + x;
                        }
                        left--;
                    }
                }
            }
            return NONE;
        }

        private static int pushed(int row, int dx) {
            if (dx == 0) {
                return row;
            }
            return dx > 0 ? row << 1 : row >> 1;
        }
    }

    /** In thought: the odds to be at a cell, from the last hour back to the first. */
    private static final class Chance {
        long[] later = new long[CELLS];
        long[] sooner = new long[CELLS];
        final Plain ground;
        final Reach reach;

        Chance(Plain ground, Reach reach) {
            this.ground = ground;
            this.reach = reach;
        }

        long greatest(int x, int y, int hours) {
            Village home = reach.home;
            if (!ground.has(x, y) || !ground.has(home.x, home.y)) {
                return 0;
            }
            Arrays.fill(later, 0);
            later[cell(x, y)] = 1;
            for (int n = hours - 1; n >= 0; n--) {
                if (reach.isStuck(n)) {
                    return stuckOdds(later[cell(home.x, home.y)], n + 1);
                }
                goBackHour(Math.floorMod(ground.time + n, DAY));
            }
            return later[cell(home.x, home.y)];
        }

        /** Who is stuck in an hour was so in all hours ahead of it. */
        private long stuckOdds(long odds, int hours) {
            long all = odds;
            for (int i = 0; i < hours; i++) {
                all *= TENTHS;
            }
            return all;
        }

        private void goBackHour(int hour) {
            int shift = ground.shifts[hour];
            int way = ground.ways[hour];
            int force = ground.forces[hour];
            for (int y = 0; y < ground.height; y++) {
                for (int x = 0; x < ground.width; x++) {
                    long odds = 0;
                    if (shift < TENTHS) {
                        odds += (TENTHS - shift) * better(x, y, way, force);
                    }
                    if (shift > 0) {
                        odds += shift * better(x, y, Voyage.turned(way), force);
                    }
                    sooner[cell(x, y)] = odds;
                }
            }
            long[] done = later;
            later = sooner;
            sooner = done;
        }

        private long better(int x, int y, int way, int force) {
            long stays = later[cell(x, y)];
            if (!within(way, 0, DX.length - 1)) {
                return stays;
            }
            int steps = reach.home.stepsBy(way, force);
            int toX = x;
            int toY = y;
            for (int i = 0; i < steps && reach.isOpen(toX + DX[way], toY + DY[way]); i++) {
                toX += DX[way];
                toY += DY[way];
            }
            return Math.max(stays, later[cell(toX, toY)]);
        }
    }
}
