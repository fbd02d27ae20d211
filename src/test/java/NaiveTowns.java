import java.util.ArrayDeque;
import java.util.ArrayList;
import java.util.Deque;
import java.util.HashMap;
import java.util.HashSet;
import java.util.List;
import java.util.Map;
import java.util.Set;
import java.util.TreeSet;
import java.util.function.Predicate;
import java.util.function.ToIntFunction;

/** The document once more, as slowly and plainly as can be: what RandomRunsTest compares the class with. */
final class NaiveTowns {
    private static final int[][] STEPS = {{0, -1}, {1, -1}, {1, 0}, {1, 1}, {0, 1}, {-1, 1}, {-1, 0}, {-1, -1}};

    private record Cell(int x, int y) {
        int far(Cell c) {
            return Math.max(Math.abs(x - c.x), Math.abs(y - c.y));
        }

        Cell next(int way) {
            return new Cell(x + STEPS[way][0], y + STEPS[way][1]);
        }

        int number() {
            return 100 * y + x;
        }
    }

    private record Wind(int way, int force, int shift) {
    }

    private record Seen(Cell cell, int time) {
    }

    private record Told(World world, Town town, Wind wind) {
    }

    private record Line(boolean sail, Predicate<Told> when) {
    }

    private static final class Fault extends RuntimeException {
        private static final long serialVersionUID = 1L;
        final int what;
        final int place;

        Fault(int what, int place) {
            this.what = what;
            this.place = place;
        }
    }

    private static final class Town implements Cloneable {
        int number;
        Cell cell;
        int weight;
        int sail;
        int kind;
        boolean anchored;
        int dug;
        int thirst;
        int dry;
        int steps;
        int sank;

        Town copy() {
            try {
                return (Town) clone();
            } catch (CloneNotSupportedException e) {
                throw new IllegalStateException(e);
            }
        }

        int most(Wind wind) {
            int most = Math.min(sail, wind.force());
            switch (kind) {
                case 1:
                    return wind.way() % 2 == 0 ? most : 0;
                case 2:
                    return most + most;
                case 3:
                    return most > 0 ? 1 : 0;
                default:
                    return most;
            }
        }
    }

    private static final class Tie {
        final int a;
        final int b;
        final int length;
        boolean torn;

        Tie(int a, int b, int length, boolean torn) {
            this.a = a;
            this.b = b;
            this.length = length;
            this.torn = torn;
        }
    }

    private static final class World {
        int w = 8;
        int h = 8;
        int time;
        int state;
        int limit = 24;
        final Map<Cell, Integer> crust = new HashMap<>();
        final Set<Cell> wells = new HashSet<>();
        final Map<Integer, Wind> winds = new HashMap<>();
        final List<Town> towns = new ArrayList<>();
        final List<Tie> ties = new ArrayList<>();
        final Map<Set<Integer>, Integer> met = new HashMap<>();
        final Map<Integer, List<Line>> orders = new HashMap<>();
        final Map<Integer, Seen> seen = new HashMap<>();

        World copy() {
            World c = new World();
            c.w = w;
            c.h = h;
            c.limit = limit;
            c.wells.addAll(wells);
            c.winds.putAll(winds);
            c.orders.putAll(orders);
            c.seen.putAll(seen);
            c.takeHour(this);
            return c;
        }

        void takeHour(World from) {
            time = from.time;
            state = from.state;
            crust.clear();
            crust.putAll(from.crust);
            met.clear();
            met.putAll(from.met);
            towns.clear();
            for (Town t : from.towns) {
                towns.add(t.copy());
            }
            ties.clear();
            for (Tie t : from.ties) {
                ties.add(new Tie(t.a, t.b, t.length, t.torn));
            }
        }

        boolean has(Cell c) {
            return c.x() >= 0 && c.y() >= 0 && c.x() < w && c.y() < h;
        }

        int crustOf(Cell c) {
            return crust.getOrDefault(c, 50);
        }

        Wind windAt(int time) {
            return winds.getOrDefault(time % 24, new Wind(0, 1, 0));
        }

        Town on(Cell c) {
            for (Town t : towns) {
                if (t.cell.equals(c)) {
                    return t;
                }
            }
            return null;
        }

        List<Line> linesOf(int kind) {
            return orders.getOrDefault(kind, List.of());
        }
    }

    private World world = new World();
    private World image;
    private final Deque<World> past = new ArrayDeque<>();
    private final List<Integer> tape = new ArrayList<>();
    private int fault = 0;
    private int faultPlace = -1;

    private boolean told() {
        past.clear();
        return true;
    }

    private boolean isTown(int v) {
        return v >= 0 && v < world.towns.size();
    }

    int state(int v) {
        int was = world.state;
        world.state = v;
        return was;
    }

    boolean plain(int w, int h) {
        if (w < 3 || h < 3 || w > 12 || h > 12) {
            return false;
        }
        int state = world.state;
        world = new World();
        world.w = w;
        world.h = h;
        world.state = state;
        return told();
    }

    boolean crust(int x, int y, int v) {
        if (!world.has(new Cell(x, y)) || v < 0 || v > 99) {
            return false;
        }
        world.crust.put(new Cell(x, y), v);
        return told();
    }

    boolean well(int x, int y, boolean is) {
        Cell c = new Cell(x, y);
        if (!world.has(c)) {
            return false;
        }
        if (is) {
            world.wells.add(c);
        } else {
            world.wells.remove(c);
        }
        return told();
    }

    boolean wind(int hour, int way, int force, int shift) {
        if (hour < 0 || hour > 23 || way < 0 || way > 7 || force < 0 || force > 3 || shift < 0 || shift > 10) {
            return false;
        }
        world.winds.put(hour, new Wind(way, force, shift));
        return told();
    }

    int village(int x, int y, int weight, int sail, int kind) {
        Cell c = new Cell(x, y);
        if (!world.has(c) || weight < 0 || weight > 99 || sail < 0 || sail > 3 || kind < 0 || kind > 3
            || world.on(c) != null || world.towns.size() == 10) {
            return -1;
        }
        Town t = new Town();
        t.number = world.towns.size();
        t.cell = c;
        t.weight = weight;
        t.sail = sail;
        t.kind = kind;
        world.towns.add(t);
        told();
        return t.number;
    }

    boolean set(int what, int village, int v) {
        if (what == 3) {
            if (v < 1 || v > 99) {
                return false;
            }
            world.limit = v;
            return told();
        }
        int[] most = {1, 3, 99};
        if (what < 0 || what > 2 || !isTown(village) || v < 0 || v > most[what]) {
            return false;
        }
        Town t = world.towns.get(village);
        if (what == 0) {
            t.anchored = v == 1;
        } else if (what == 1) {
            t.sail = v;
        } else {
            t.weight = v;
        }
        return told();
    }

    int rope(int a, int b, int length) {
        if (!isTown(a) || !isTown(b) || a == b || length < 1 || length > 12 || world.ties.size() == 20
            || length < world.towns.get(a).cell.far(world.towns.get(b).cell)) {
            return -1;
        }
        world.ties.add(new Tie(a, b, length, false));
        told();
        return world.ties.size() - 1;
    }

    int feed(int... five) {
        if (tape.size() > 380) {
            return -1;
        }
        for (int number : five) {
            for (int k = 3; k >= 0; k--) {
                tape.add(number >> 8 * k & 255);
            }
        }
        return tape.size();
    }

    boolean end(int n) {
        if (n < 0 || n > tape.size()) {
            return false;
        }
        tape.subList(n, tape.size()).clear();
        return true;
    }

    int text(int kind) {
        StringBuilder b = new StringBuilder();
        for (int sign : tape) {
            b.append((char) sign);
        }
        tape.clear();
        fault = 0;
        faultPlace = -1;
        if (kind < 0 || kind > 3) {
            return -1;
        }
        try {
            world.orders.put(kind, new Parser(b.toString()).lines());
        } catch (Fault f) {
            fault = f.what;
            faultPlace = f.place;
            return -1;
        }
        return world.orders.get(kind).size();
    }

    int fault(int what) {
        return what == 0 ? fault : what == 1 ? faultPlace : -1;
    }

    /** Cuts the text sign by sign and builds predicates as it goes. */
    private static final class Parser {
        private final String text;
        private int from;
        private String token;
        private int place;

        Parser(String text) {
            this.text = text;
            next();
        }

        private static boolean letter(char c) {
            return c >= 'a' && c <= 'z' || c >= 'A' && c <= 'Z';
        }

        private static boolean digit(char c) {
            return c >= '0' && c <= '9';
        }

        private void next() {
            while (from < text.length() && (text.charAt(from) == 32 || text.charAt(from) == 10)) {
                from++;
            }
            place = from;
            if (from == text.length()) {
                token = "";
                return;
            }
            char c = text.charAt(from++);
            while (from < text.length() && (letter(c) && letter(text.charAt(from)) || digit(c) && digit(text.charAt(from)))) {
                from++;
            }
            token = text.substring(place, from);
        }

        private boolean isNumber() {
            return token.matches("[0-9]{1,4}");
        }

        private boolean take(String wanted) {
            if (!token.equals(wanted)) {
                return false;
            }
            next();
            return true;
        }

        private void need(String wanted) {
            if (!take(wanted)) {
                throw new Fault(1, place);
            }
        }

        List<Line> lines() {
            List<Line> lines = new ArrayList<>();
            while (!token.isEmpty()) {
                int at = place;
                boolean sail = token.equals("sail");
                if (!sail) {
                    need("furl");
                } else {
                    next();
                }
                if (lines.size() == 16) {
                    throw new Fault(3, at);
                }
                Predicate<Told> when = take("when") ? any(0) : t -> true;
                need(";");
                lines.add(new Line(sail, when));
            }
            return lines;
        }

        private Predicate<Told> any(int open) {
            Predicate<Told> p = all(open);
            while (take("or")) {
                p = p.or(all(open));
            }
            return p;
        }

        private Predicate<Told> all(int open) {
            Predicate<Told> p = claim(open);
            while (take("and")) {
                p = p.and(claim(open));
            }
            return p;
        }

        private Predicate<Told> claim(int open) {
            if (token.equals("not") || token.equals("(")) {
                if (open == 8) {
                    throw new Fault(3, place);
                }
            }
            if (take("not")) {
                return claim(open + 1).negate();
            }
            if (take("(")) {
                Predicate<Told> p = any(open + 1);
                need(")");
                return p;
            }
            ToIntFunction<Told> left = sum();
            String sign = token;
            if (!take("<") && !take("=")) {
                need(">");
            }
            ToIntFunction<Told> right = sum();
            return t -> {
                int l = left.applyAsInt(t);
                int r = right.applyAsInt(t);
                return sign.equals("<") ? l < r : sign.equals("=") ? l == r : l > r;
            };
        }

        private ToIntFunction<Told> sum() {
            ToIntFunction<Told> f = product();
            while (token.equals("+") || token.equals("-")) {
                int sign = token.equals("+") ? 1 : -1;
                next();
                ToIntFunction<Told> left = f;
                ToIntFunction<Told> right = product();
                f = t -> left.applyAsInt(t) + sign * right.applyAsInt(t);
            }
            return f;
        }

        private ToIntFunction<Told> product() {
            ToIntFunction<Told> f = unit();
            while (token.equals("*") || token.equals("/")) {
                ToIntFunction<Told> left = f;
                if (take("*")) {
                    ToIntFunction<Told> right = unit();
                    f = t -> left.applyAsInt(t) * right.applyAsInt(t);
                } else {
                    next();
                    if (!isNumber()) {
                        throw new Fault(1, place);
                    }
                    int part = Integer.parseInt(token);
                    if (part == 0) {
                        throw new Fault(2, place);
                    }
                    next();
                    f = t -> left.applyAsInt(t) / part;
                }
            }
            return f;
        }

        private ToIntFunction<Told> unit() {
            ToIntFunction<Told> f;
            if (isNumber()) {
                int number = Integer.parseInt(token);
                f = t -> number;
            } else {
                f = name();
            }
            next();
            return f;
        }

        private ToIntFunction<Told> name() {
            switch (token) {
                case "x":
                    return t -> t.town().cell.x();
                case "y":
                    return t -> t.town().cell.y();
                case "way":
                    return t -> t.wind().way();
                case "force":
                    return t -> t.wind().force();
                case "hour":
                    return t -> t.world().time % 24;
                case "thirst":
                    return t -> t.town().thirst;
                case "crust":
                    return t -> t.world().crustOf(t.town().cell);
                case "near":
                    return t -> (int) t.world().towns.stream()
                        .filter(o -> o != t.town() && o.cell.far(t.town().cell) <= 1).count();
                case "tied":
                    return t -> (int) t.world().ties.stream()
                        .filter(r -> !r.torn && (r.a == t.town().number || r.b == t.town().number)).count();
                case "village":
                    return t -> t.town().number;
                default:
                    throw new Fault(1, place);
            }
        }
    }

    int hours(int n) {
        if (n < 1 || n > 240 || world.time + n > 9999) {
            return -1;
        }
        int steps = 0;
        for (int i = 0; i < n; i++) {
            past.addLast(world.copy());
            if (past.size() > 6) {
                past.removeFirst();
            }
            steps += hour();
        }
        return steps;
    }

    private int hour() {
        Wind wind = world.windAt(world.time);
        if (wind.shift() > 0) {
            world.state = 1664525 * world.state + 1013904223;
            int draw = (int) ((Integer.toUnsignedLong(world.state) / 256) % 10);
            if (draw < wind.shift()) {
                wind = new Wind((wind.way() + 1) % 8, wind.force(), wind.shift());
            }
        }
        int steps = 0;
        for (Town t : world.towns) {
            if (!t.anchored && world.time >= t.dug && isToldToSail(t, wind)) {
                steps += sail(t, wind);
            }
        }
        for (Town a : world.towns) {
            for (Town b : world.towns) {
                if (a.number < b.number && a.cell.far(b.cell) <= 1) {
                    world.met.merge(Set.of(a.number, b.number), 1, Integer::sum);
                }
            }
        }
        for (Town t : world.towns) {
            t.thirst = world.wells.stream().anyMatch(c -> c.far(t.cell) <= 1) ? 0 : t.thirst + 1;
            if (t.thirst == world.limit + 1) {
                t.dry++;
            }
        }
        world.time++;
        return steps;
    }

    private boolean isToldToSail(Town t, Wind wind) {
        for (Line line : world.linesOf(t.kind)) {
            if (line.when().test(new Told(world, t, wind))) {
                return line.sail();
            }
        }
        return false;
    }

    private int sail(Town t, Wind wind) {
        int made = 0;
        while (made < t.most(wind)) {
            Cell to = t.cell.next(wind.way());
            if (!world.has(to) || world.on(to) != null || held(t, to)) {
                break;
            }
            world.crust.put(t.cell, Math.max(0, world.crustOf(t.cell) - 1));
            t.cell = to;
            made++;
            if (world.crustOf(to) < t.weight) {
                t.sank++;
                t.dug = world.time + 6;
                break;
            }
        }
        t.steps += made;
        return made;
    }

    private boolean held(Town t, Cell to) {
        for (Tie r : world.ties) {
            if (r.torn || r.a != t.number && r.b != t.number) {
                continue;
            }
            Town other = world.towns.get(r.a == t.number ? r.b : r.a);
            if (r.length < other.cell.far(to)) {
                if (other.weight < t.weight) {
                    r.torn = true;
                } else {
                    return true;
                }
            }
        }
        return false;
    }

    int of(int village, int what) {
        if (!isTown(village) || what < 0 || what > 10) {
            return -2;
        }
        Town t = world.towns.get(village);
        int[] all = {t.cell.x(), t.cell.y(), t.weight, t.sail, t.kind, t.anchored ? 1 : 0, t.dug, t.thirst, t.dry,
            t.steps, t.sank};
        return all[what];
    }

    int met(int a, int b) {
        return !isTown(a) || !isTown(b) || a == b ? -1 : world.met.getOrDefault(Set.of(a, b), 0);
    }

    int tie(int rope, int what) {
        if (rope < 0 || rope >= world.ties.size() || what < 0 || what > 3) {
            return -1;
        }
        Tie r = world.ties.get(rope);
        int[] all = {r.a, r.b, r.length, r.torn ? 1 : 0};
        return all[what];
    }

    int at(int x, int y, int what) {
        Cell c = new Cell(x, y);
        if (!world.has(c) || what < 0 || what > 2) {
            return -2;
        }
        Town t = world.on(c);
        int[] all = {world.crustOf(c), world.wells.contains(c) ? 1 : 0, t == null ? -1 : t.number};
        return all[what];
    }

    /** Where one alone comes to from a cell if it sails. */
    private Cell drift(Town t, Cell from, Wind wind) {
        Cell c = from;
        for (int i = 0; i < t.most(wind); i++) {
            Cell to = c.next(wind.way());
            if (!world.has(to) || world.crustOf(to) < t.weight) {
                return c;
            }
            c = to;
        }
        return c;
    }

    private Set<Cell> after(Town t, int hours) {
        Set<Cell> cells = new HashSet<>(Set.of(t.cell));
        for (int i = 0; i < hours; i++) {
            if (world.time + i >= t.dug) {
                Wind wind = world.windAt(world.time + i);
                for (Cell c : List.copyOf(cells)) {
                    cells.add(drift(t, c, wind));
                }
            }
        }
        return cells;
    }

    int soon(int village, int x, int y) {
        if (!isTown(village) || !world.has(new Cell(x, y))) {
            return -1;
        }
        for (int n = 0; n <= 72; n++) {
            if (after(world.towns.get(village), n).contains(new Cell(x, y))) {
                return n;
            }
        }
        return -1;
    }

    int meeting(int a, int b) {
        if (!isTown(a) || !isTown(b) || a == b) {
            return -1;
        }
        for (int n = 0; n <= 48; n++) {
            Set<Cell> others = after(world.towns.get(b), n);
            for (Cell c : after(world.towns.get(a), n)) {
                if (others.stream().anyMatch(o -> o.far(c) <= 1)) {
                    return n;
                }
            }
        }
        return -1;
    }

    int market(int n, int what) {
        if (n < 0 || n > 24 || what < 0 || what > 2 || world.towns.isEmpty()) {
            return -1;
        }
        Map<Cell, Integer> counts = new HashMap<>();
        for (Town t : world.towns) {
            for (Cell c : after(t, n)) {
                counts.merge(c, 1, Integer::sum);
            }
        }
        Cell best = null;
        for (Cell c : counts.keySet()) {
            if (best == null || counts.get(c) > counts.get(best)
                || counts.get(c).equals(counts.get(best)) && c.number() < best.number()) {
                best = c;
            }
        }
        int[] all = {counts.get(best), best.x(), best.y()};
        return all[what];
    }

    long odds(int village, int x, int y, int n) {
        if (!isTown(village) || !world.has(new Cell(x, y)) || n < 0 || n > 12) {
            return -1;
        }
        Town t = world.towns.get(village);
        return best(t, t.cell, new Cell(x, y), 0, n, new HashMap<>());
    }

    private long best(Town t, Cell at, Cell wanted, int hour, int n, Map<List<Integer>, Long> known) {
        if (hour == n) {
            return at.equals(wanted) ? 1 : 0;
        }
        List<Integer> key = List.of(hour, at.number());
        Long was = known.get(key);
        if (was != null) {
            return was;
        }
        Wind wind = world.windAt(world.time + hour);
        long sum = 0;
        for (int draw = 0; draw < 10; draw++) {
            int way = draw < wind.shift() ? (wind.way() + 1) % 8 : wind.way();
            long stay = best(t, at, wanted, hour + 1, n, known);
            long go = 0;
            if (world.time + hour >= t.dug) {
                go = best(t, drift(t, at, new Wind(way, wind.force(), 0)), wanted, hour + 1, n, known);
            }
            sum += Math.max(stay, go);
        }
        known.put(key, sum);
        return sum;
    }

    boolean seen(int village, int x, int y, int time) {
        if (!isTown(village) || !world.has(new Cell(x, y)) || time < 0 || time > 9999) {
            return false;
        }
        world.seen.put(village, new Seen(new Cell(x, y), time));
        return true;
    }

    int places(int village, int n, int i) {
        Seen seen = world.seen.get(village);
        if (!isTown(village) || seen == null || n < 0 || n > 24) {
            return -1;
        }
        Town t = world.towns.get(village);
        Set<Cell> cells = new HashSet<>(Set.of(seen.cell()));
        for (int k = 0; k < n; k++) {
            Wind wind = world.windAt(seen.time() + k);
            for (Cell c : List.copyOf(cells)) {
                if (wind.shift() < 10) {
                    cells.add(drift(t, c, wind));
                }
                if (wind.shift() > 0) {
                    cells.add(drift(t, c, new Wind((wind.way() + 1) % 8, wind.force(), 0)));
                }
            }
        }
        TreeSet<Integer> numbers = new TreeSet<>();
        cells.forEach(c -> numbers.add(c.number()));
        if (i == -1) {
            return numbers.size();
        }
        return i < 0 || i >= numbers.size() ? -1 : new ArrayList<>(numbers).get(i);
    }

    boolean undo() {
        if (past.isEmpty()) {
            return false;
        }
        world.takeHour(past.removeLast());
        return true;
    }

    boolean image(boolean taken) {
        if (taken) {
            image = world.copy();
            return true;
        }
        if (image == null) {
            return false;
        }
        world = image.copy();
        return told();
    }

    int look(int what) {
        if (what >= 10 && what < 14) {
            return world.linesOf(what - 10).size();
        }
        if (what >= 20 && what < 92) {
            Wind wind = world.windAt((what - 20) / 3);
            int[] three = {wind.way(), wind.force(), wind.shift()};
            return three[(what - 20) % 3];
        }
        int[] all = {world.w, world.h, world.time, world.towns.size(), world.ties.size(), world.state, world.limit,
            past.size()};
        return what < 0 || what > 7 ? -1 : all[what];
    }
}
