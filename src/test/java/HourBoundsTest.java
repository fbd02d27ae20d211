/** The bounds that promises 14 to 18 and the term AN HOUR name: just inside and just outside. */
public final class HourBoundsTest {
    private static final int MIN = Integer.MIN_VALUE;
    private static final int MAX = Integer.MAX_VALUE;
    private static final int[] DX = {0, 1, 1, 1, 0, -1, -1, -1};
    private static final int[] DY = {-1, -1, 0, 1, 1, 1, 0, -1};

    private HourBoundsTest() {
    }

    public static void main(String[] args) {
        howManyHours();
        lastTime();
        dayRoundsUp();
        wayRoundsUp();
        shiftOfZeroAndTen();
        lesserOfSailAndForce();
        kinds();
        edges();
        another();
        ropeAsLongAsFar();
        ropesByNumber();
        stoppedNothingTears();
        tornIsGone();
        crustAtLeastZero();
        crustAndWeight();
        sinkingStops();
        stuckTillDug();
        sinkAgain();
        anchors();
        firstLineThatIsSo();
        whatOrdersKnow();
        nearAndMet();
        wellsNear();
        limits();
        askOf();
        askMet();
        askTie();
        askAt();
        Due.finish();
    }

    private static TownsUnderSail sailing(int w, int h) {
        TownsUnderSail t = new TownsUnderSail();
        t.plain(w, h);
        for (int kind = 0; kind < 4; kind++) {
            Due.tell(t, kind, "sail;");
        }
        return t;
    }

    private static void where(String what, TownsUnderSail t, int village, int x, int y) {
        Due.is(what + ": x", t.of(village, 0), x);
        Due.is(what + ": y", t.of(village, 1), y);
    }

    /** "HOURS go by (1 .. 240): how many STEPS were made. NONE, and nothing is done, if one can't be". */
    private static void howManyHours() {
        int[] bad = {0, -1, 241, 242, MIN, MAX, -240};
        for (int b : bad) {
            Whole.refused("hours(" + b + ")", -1, t -> t.hours(b));
        }
        int[] good = {1, 2, 239, 240};
        for (int n : good) {
            TownsUnderSail t = sailing(8, 8);
            t.village(3, 7, 0, 1, 0);
            t.village(5, 2, 0, 1, 0);
            Due.is("steps of all", t.hours(n), Math.min(n, 7) + Math.min(n, 2));
            Due.is("TIME", t.look(2), n);
            Due.is("steps of one", t.of(0, 9), Math.min(n, 7));
            Due.is("steps of the other", t.of(1, 9), Math.min(n, 2));
            Due.is("steps of this call alone", t.hours(1), n < 2 ? 2 : n < 7 ? 1 : 0);
        }
        Due.is("nobody goes", new TownsUnderSail().hours(240), 0);
    }

    private static void passTo(TownsUnderSail t, int time) {
        int left = time - t.look(2);
        for (int i = 0; i < 50 && left > 0; i++) {
            t.hours(Math.min(left, 240));
            left -= Math.min(left, 240);
        }
        Due.is("TIME", t.look(2), time);
    }

    /** "or TIME would be above 9999". */
    private static void lastTime() {
        Whole.refused("hours(1) at 9999", -1, t -> passTo(t, 9999), t -> t.hours(1));
        Whole.refused("hours(240) at 9999", -1, t -> passTo(t, 9999), t -> t.hours(240));
        Whole.refused("hours(2) at 9998", -1, t -> passTo(t, 9998), t -> t.hours(2));
        Whole.refused("hours(240) at 9760", -1, t -> passTo(t, 9760), t -> t.hours(240));
        TownsUnderSail t = new TownsUnderSail();
        passTo(t, 9759);
        Due.is("hours(240) at 9759", t.hours(240), 0);
        Due.is("TIME", t.look(2), 9999);
        Due.is("no more", t.hours(1), -1);
        Due.is("undo", t.undo(), true);
        Due.is("TIME", t.look(2), 9998);
        Due.is("two are too many", t.hours(2), -1);
        Due.is("one can be", t.hours(1), 0);
        Due.is("six can be undone", t.look(7), 6);
        Due.is("a plain told anew starts at 0", t.plain(3, 3) && t.look(2) == 0 && t.hours(240) == 0, true);
    }

    /** "HOUR is TIME modulo 24". */
    private static void dayRoundsUp() {
        TownsUnderSail t = sailing(8, 8);
        t.village(4, 4, 0, 1, 0);
        for (int h = 0; h < 24; h++) {
            t.wind(h, 0, 0, 0);
        }
        t.wind(23, 2, 1, 0);
        t.wind(0, 4, 1, 0);
        Due.is("hour 0", t.hours(1), 1);
        where("hour 0", t, 0, 4, 5);
        Due.is("hours 1 to 22", t.hours(22), 0);
        Due.is("hour 23", t.hours(1), 1);
        where("hour 23", t, 0, 5, 5);
        Due.is("TIME", t.look(2), 24);
        Due.is("hour 24 is 0", t.hours(1), 1);
        where("hour 24", t, 0, 5, 6);
        Due.is("hour 25 is 1", t.hours(1), 0);
        Due.tell(t, 0, "sail when hour=23;");
        Due.is("orders know of 23", t.hours(22), 1);
        Due.is("TIME", t.look(2), 48);
        Due.tell(t, 0, "sail when hour=0;");
        Due.is("and of 0", t.hours(1), 1);
        Due.tell(t, 0, "sail when hour>23 or hour<0;");
        t.wind(22, 0, 1, 0);
        Due.is("but of no other", t.hours(48), 0);
    }

    /** "its WAY is one more (modulo 8)", "0: y less by one; then round". */
    private static void wayRoundsUp() {
        for (int way = 0; way < 8; way++) {
            for (int shift = 0; shift <= 10; shift += 10) {
                TownsUnderSail t = sailing(3, 3);
                t.village(1, 1, 0, 1, 0);
                t.wind(0, way, 1, shift);
                int by = shift == 0 ? way : (way + 1) % 8;
                Due.tell(t, 0, "sail when way=" + by + ";");
                Due.is("one step", t.hours(1), 1);
                where("way " + by, t, 0, 1 + DX[by], 1 + DY[by]);
                Due.is("the wind told stays", t.look(20), way);
                Due.is("its shift stays", t.look(22), shift);
            }
        }
    }

    /** "if SHIFT of this HOUR is above 0, a DRAW of 10": none at 0, one for each hour from 1 to 10. */
    private static void shiftOfZeroAndTen() {
        for (int shift = 0; shift <= 10; shift++) {
            TownsUnderSail t = new TownsUnderSail();
            t.wind(1, 0, 0, shift);
            t.state(1234567);
            t.hours(1);
            Due.is("no draw in another hour", t.look(5), 1234567);
            t.hours(1);
            Due.is("a draw by shift " + shift, t.look(5), shift == 0 ? 1234567 : 1234567 * 1664525 + 1013904223);
        }
        int state = 8;
        TownsUnderSail t = sailing(12, 12);
        t.state(state);
        t.village(0, 11, 0, 1, 0);
        for (int h = 0; h < 11; h++) {
            t.wind(h, 0, 1, 10);
        }
        t.hours(11);
        where("all shift", t, 0, 11, 0);
        for (int h = 0; h < 11; h++) {
            state = state * 1664525 + 1013904223;
        }
        Due.is("eleven draws", t.look(5), state);
    }

    /** "as many as the lesser one of SAIL and FORCE". */
    private static void lesserOfSailAndForce() {
        for (int sail = 0; sail <= 3; sail++) {
            for (int force = 0; force <= 3; force++) {
                TownsUnderSail t = sailing(8, 8);
                t.village(4, 7, 0, sail, 0);
                t.wind(0, 0, force, 0);
                Due.is("sail " + sail + " force " + force, t.hours(1), Math.min(sail, force));
                where("sail " + sail + " force " + force, t, 0, 4, 7 - Math.min(sail, force));
            }
        }
    }

    /** "(THIEVES twice as many; a CHURCH none, if WAY is odd; a TWIN one, if that is above 0)". */
    private static void kinds() {
        for (int way = 0; way < 8; way++) {
            for (int most = 0; most <= 3; most++) {
                int[] due = {most, way % 2 == 1 ? 0 : most, 2 * most, most == 0 ? 0 : 1};
                for (int kind = 0; kind < 4; kind++) {
                    TownsUnderSail t = sailing(12, 12);
                    t.village(DX[way] < 0 ? 11 : 0, DY[way] < 0 ? 11 : 0, 0, most, kind);
                    t.wind(0, way, 3, 0);
                    Due.is("kind " + kind + " way " + way + " sail " + most, t.hours(1), due[kind]);
                    Due.is("steps of it", t.of(0, 9), due[kind]);
                    t.set(1, 0, 3);
                    t.wind(1, (way + 4) % 8, most, 0);
                    Due.is("kind " + kind + " back, force " + most, t.hours(1), due[kind]);
                }
            }
        }
        TownsUnderSail t = sailing(8, 8);
        t.village(4, 4, 0, 1, 1);
        t.wind(0, 1, 1, 10);
        Due.is("a church by the way as it is in this hour", t.hours(1), 1);
        t.wind(1, 2, 1, 10);
        Due.is("none if it is odd by a shift", t.hours(1), 0);
    }

    /** "It stops ahead of a STEP if that CELL is none". */
    private static void edges() {
        for (int way = 0; way < 8; way++) {
            for (int room = 0; room <= 4; room++) {
                TownsUnderSail t = sailing(12, 10);
                int x = DX[way] > 0 ? 11 - room : room;
                int y = DY[way] > 0 ? 9 - room : room;
                t.village(x, y, 0, 3, 0);
                t.wind(0, way, 3, 0);
                int due = Math.min(room, 3);
                Due.is("steps by way " + way + " with room " + room, t.hours(1), due);
                where("way " + way, t, 0, x + due * DX[way], y + due * DY[way]);
                Due.is("no step, no wear", t.at(x + due * DX[way], y + due * DY[way], 0), 50);
            }
        }
        TownsUnderSail t = sailing(3, 3);
        t.village(0, 2, 0, 1, 0);
        t.village(2, 0, 0, 1, 0);
        t.wind(0, 7, 3, 0);
        t.wind(1, 3, 3, 0);
        Due.is("aslant at the edge", t.hours(2), 0);
    }

    /** "or another VILLAGE is there". */
    private static void another() {
        for (int gap = 0; gap <= 4; gap++) {
            TownsUnderSail t = sailing(12, 3);
            t.village(0, 1, 0, 3, 0);
            t.village(1 + gap, 1, 0, 0, 0);
            t.wind(0, 2, 3, 0);
            Due.is("gap " + gap, t.hours(1), Math.min(gap, 3));
            where("gap " + gap, t, 0, Math.min(gap, 3), 1);
            where("the other one", t, 1, 1 + gap, 1);
        }
        TownsUnderSail t = sailing(12, 3);
        t.village(3, 1, 0, 2, 0);
        t.village(2, 1, 0, 2, 0);
        t.wind(0, 2, 2, 0);
        Due.is("who goes first makes room", t.hours(1), 4);
        where("first", t, 0, 5, 1);
        where("second", t, 1, 4, 1);
        TownsUnderSail u = sailing(12, 3);
        u.village(2, 1, 0, 2, 0);
        u.village(3, 1, 0, 2, 0);
        u.wind(0, 2, 2, 0);
        Due.is("who goes last does not", u.hours(1), 2);
        where("first", u, 0, 2, 1);
    }

    /** "if by it some ROPE of it would be shorter than FAR: if the other one's WEIGHT is less, it is TORN, else it HOLDS". */
    private static void ropeAsLongAsFar() {
        for (int length = 1; length <= 5; length++) {
            for (int weight = 29; weight <= 31; weight++) {
                for (int first = 0; first < 2; first++) {
                    TownsUnderSail t = sailing(12, 4);
                    t.village(1, 1, 30, 3, 0);
                    t.village(0, 2, weight, 0, 0);
                    t.rope(first, 1 - first, length);
                    t.wind(0, 2, 3, 0);
                    boolean tears = weight < 30 && length < 4;
                    int due = tears ? 3 : Math.min(length - 1, 3);
                    Due.is("steps by length " + length + " weight " + weight, t.hours(1), due);
                    where("length " + length, t, 0, 1 + due, 1);
                    Due.is("torn", t.tie(0, 3), tears ? 1 : 0);
                    Due.is("it holds, no wear", t.at(1 + due, 1, 0), 50);
                }
            }
        }
        TownsUnderSail t = sailing(12, 3);
        t.village(5, 1, 30, 3, 0);
        t.village(8, 1, 99, 0, 0);
        t.rope(0, 1, 3);
        t.wind(0, 2, 2, 0);
        Due.is("nearer to the other one no rope is asked", t.hours(1), 2);
    }

    /** "by number each such ROPE: .. (and it stops; those TORN ahead of that stay so)". */
    private static void ropesByNumber() {
        for (int heavy = 0; heavy <= 4; heavy++) {
            TownsUnderSail t = sailing(8, 8);
            t.village(3, 3, 5, 1, 0);
            int[][] cells = {{2, 4}, {3, 4}, {4, 4}, {2, 5}};
            int[] lengths = {1, 1, 1, 2};
            for (int i = 0; i < 4; i++) {
                t.village(cells[i][0], cells[i][1], i == heavy ? 5 : 4, 0, 0);
                t.rope(i % 2 == 0 ? 0 : i + 1, i % 2 == 0 ? i + 1 : 0, lengths[i]);
            }
            t.rope(1, 2, 1);
            Due.is("held by rope " + heavy, t.hours(1), heavy < 4 ? 0 : 1);
            for (int i = 0; i < 4; i++) {
                Due.is("rope " + i + " torn ahead of " + heavy, t.tie(i, 3), i < heavy ? 1 : 0);
            }
            Due.is("a rope of others", t.tie(4, 3), 0);
            Due.is("crust", t.at(3, 3, 0), heavy < 4 ? 50 : 49);
        }
    }

    /** At the edge, or where another one is, no rope is asked. */
    private static void stoppedNothingTears() {
        TownsUnderSail t = sailing(4, 4);
        t.village(3, 0, 9, 1, 0);
        t.village(2, 1, 1, 0, 0);
        t.rope(0, 1, 1);
        t.wind(0, 2, 1, 0);
        t.wind(1, 0, 1, 0);
        Due.is("no cell there", t.hours(2), 0);
        Due.is("not torn", t.tie(0, 3), 0);
        TownsUnderSail u = sailing(4, 4);
        u.village(1, 1, 9, 1, 0);
        u.village(0, 1, 1, 0, 0);
        u.village(2, 1, 1, 0, 0);
        u.rope(0, 1, 1);
        u.wind(0, 2, 1, 0);
        Due.is("another one there", u.hours(1), 0);
        Due.is("not torn", u.tie(0, 3), 0);
    }

    /** A rope that is TORN neither holds nor is told as tied. */
    private static void tornIsGone() {
        TownsUnderSail t = sailing(8, 8);
        t.village(3, 3, 9, 1, 0);
        t.village(3, 4, 1, 1, 1);
        t.rope(0, 1, 1);
        Due.tell(t, 0, "sail when tied=1;");
        Due.tell(t, 1, "furl;");
        Due.is("it tears", t.hours(1), 1);
        Due.is("torn", t.tie(0, 3), 1);
        Due.is("not tied any more", t.hours(1), 0);
        Due.tell(t, 0, "sail when tied=0;");
        t.set(2, 1, 99);
        Due.is("no rope holds it", t.hours(1), 1);
        Due.is("torn for good", t.tie(0, 3), 1);
        Due.tell(t, 0, "furl;");
        Due.tell(t, 1, "sail when tied=0;");
        Due.is("nor the other one", t.hours(1), 1);
    }

    /** "the CRUST of the CELL that it leaves is one less (0 at least)". */
    private static void crustAtLeastZero() {
        int[][] crusts = {{99, 98}, {50, 49}, {2, 1}, {1, 0}, {0, 0}};
        for (int[] c : crusts) {
            TownsUnderSail t = sailing(8, 8);
            t.village(4, 4, 0, 2, 0);
            t.crust(4, 4, c[0]);
            t.crust(4, 3, c[0]);
            t.crust(4, 2, c[0]);
            t.wind(0, 0, 2, 0);
            Due.is("two steps", t.hours(1), 2);
            Due.is("left from " + c[0], t.at(4, 4, 0), c[1]);
            Due.is("passed from " + c[0], t.at(4, 3, 0), c[1]);
            Due.is("come to from " + c[0], t.at(4, 2, 0), c[0]);
            Due.is("weight 0 never sinks", t.of(0, 10), 0);
        }
    }

    /** "If CRUST of the new CELL is less than WEIGHT, it SINKS". */
    private static void crustAndWeight() {
        int[][] cases = {{30, 30, 0}, {29, 30, 1}, {31, 30, 0}, {0, 0, 0}, {0, 1, 1}, {99, 99, 0}, {98, 99, 1}};
        for (int[] c : cases) {
            TownsUnderSail t = sailing(8, 8);
            t.village(4, 4, c[1], 1, 0);
            t.crust(4, 4, 0);
            t.crust(4, 3, c[0]);
            Due.is("it goes there", t.hours(1), 1);
            where("it is there", t, 0, 4, 3);
            Due.is("SANK in " + c[0] + " by " + c[1], t.of(0, 10), c[2]);
            Due.is("DUG", t.of(0, 6), 6 * c[2]);
            Due.is("sinking wears nothing", t.at(4, 3, 0), c[0]);
        }
    }

    /** "it stops there": further steps of this hour are not made. */
    private static void sinkingStops() {
        for (int weak = 1; weak <= 4; weak++) {
            TownsUnderSail t = sailing(8, 8);
            t.village(4, 7, 30, 3, 0);
            t.crust(4, 7 - weak, 29);
            t.wind(0, 0, 3, 0);
            Due.is("weak " + weak, t.hours(1), Math.min(weak, 3));
            where("weak " + weak, t, 0, 4, 7 - Math.min(weak, 3));
            Due.is("SANK", t.of(0, 10), weak <= 3 ? 1 : 0);
        }
        TownsUnderSail t = sailing(3, 8);
        t.village(1, 7, 50, 2, 0);
        t.village(1, 6, 0, 1, 0);
        t.wind(0, 0, 2, 0);
        t.hours(1);
        Due.is("the one ahead keeps it from there", t.of(0, 9), 0);
        t.wind(1, 0, 2, 0);
        t.hours(1);
        Due.is("it sinks where the other one has worn the crust", t.of(0, 10), 1);
        Due.is("by one", t.at(1, 6, 0), 49);
    }

    /** "DUG is TIME and 6", "stuck (TIME below DUG)". */
    private static void stuckTillDug() {
        for (int from = 0; from <= 30; from += 10) {
            TownsUnderSail t = sailing(8, 8);
            t.village(4, 4, 30, 1, 0);
            t.set(0, 0, 1);
            if (from > 0) {
                t.hours(from);
            }
            t.set(0, 0, 0);
            t.crust(4, 3, 0);
            Due.is("it sinks", t.hours(1), 1);
            Due.is("DUG", t.of(0, 6), from + 6);
            for (int i = 1; i <= 5; i++) {
                Due.is("stuck at TIME " + t.look(2), t.hours(1), 0);
            }
            Due.is("TIME is DUG", t.look(2), from + 6);
            Due.is("it goes", t.hours(1), 1);
            Due.is("DUG stays told", t.of(0, 6), from + 6);
            Due.is("SANK once", t.of(0, 10), 1);
        }
        TownsUnderSail t = sailing(8, 8);
        t.village(4, 4, 30, 1, 0);
        t.crust(4, 3, 0);
        Due.is("in one call as well", t.hours(6), 1);
        Due.is("in one call as well", t.hours(1), 1);
    }

    private static void sinkAgain() {
        TownsUnderSail t = sailing(8, 8);
        t.village(4, 4, 30, 3, 0);
        t.crust(4, 3, 29);
        t.crust(4, 2, 29);
        t.crust(4, 1, 29);
        Due.is("three times", t.hours(13), 3);
        Due.is("SANK", t.of(0, 10), 3);
        Due.is("DUG", t.of(0, 6), 18);
        Due.is("it wore what it sank in", t.at(4, 3, 0), 28);
        TownsUnderSail u = sailing(8, 8);
        u.village(4, 4, 30, 1, 0);
        u.crust(4, 3, 0);
        u.hours(1);
        u.set(2, 0, 0);
        u.crust(4, 3, 99);
        Due.is("stuck, whatever is told then", u.hours(5), 0);
        Due.is("dug out", u.hours(1), 1);
    }

    /** "one that is ANCHORED .. stays". */
    private static void anchors() {
        TownsUnderSail t = sailing(8, 8);
        t.village(4, 4, 0, 1, 0);
        t.village(2, 4, 0, 1, 0);
        t.set(0, 0, 1);
        Due.is("one of two", t.hours(1), 1);
        where("anchored", t, 0, 4, 4);
        where("not anchored", t, 1, 2, 3);
        t.set(0, 0, 0);
        t.set(0, 1, 1);
        Due.is("the other of two", t.hours(1), 1);
        where("not anchored any more", t, 0, 4, 3);
        where("anchored", t, 1, 2, 3);
    }

    private static void told(String text, boolean sails) {
        TownsUnderSail t = new TownsUnderSail();
        t.village(4, 4, 0, 1, 0);
        Due.tell(t, 0, text);
        Due.is("[" + text + "]", t.hours(1), sails ? 1 : 0);
    }

    /** "it is told by the first line of its KIND's ORDERS whose B is so, or that has none (none: furl)". */
    private static void firstLineThatIsSo() {
        told("", false);
        told("sail;", true);
        told("furl;", false);
        told("sail;furl;", true);
        told("furl;sail;", false);
        told("sail when x=5;", false);
        told("sail when x=4;", true);
        told("furl when x=5;", false);
        told("furl when x=5;sail;", true);
        told("furl when x=4;sail;", false);
        told("sail when x=5;furl when y=4;sail;", false);
        told("sail when x=5;furl when y=5;sail;", true);
        told("sail when x=5;furl when y=5;sail when x=6;", false);
        told("furl when x=5;furl;sail when x=4;", false);
        for (int kind = 0; kind < 4; kind++) {
            for (int orders = 0; orders < 4; orders++) {
                TownsUnderSail t = new TownsUnderSail();
                t.village(4, 4, 0, 1, kind);
                Due.tell(t, orders, "sail;");
                Due.is("kind " + kind + " by orders of " + orders, t.hours(1), kind != orders ? 0 : kind == 2 ? 2 : 1);
            }
        }
    }

    private static void knows(String claim) {
        TownsUnderSail t = new TownsUnderSail();
        t.plain(12, 12);
        t.village(0, 0, 0, 0, 1);
        t.village(11, 10, 7, 3, 0);
        t.village(10, 11, 0, 0, 1);
        t.rope(1, 2, 12);
        t.rope(0, 1, 12);
        t.rope(0, 2, 12);
        t.crust(11, 10, 99);
        t.wind(23, 7, 3, 10);
        t.hours(23);
        Due.tell(t, 0, "sail when " + claim + ";");
        Due.is(claim, t.hours(1), 3);
    }

    /** "x, y; way, force as they are in it; hour; thirst; crust of its CELL; near; tied; village". */
    private static void whatOrdersKnow() {
        knows("x=11");
        knows("y=10");
        knows("way=0");
        knows("force=3");
        knows("hour=23");
        knows("thirst=23");
        knows("crust=99");
        knows("near=1");
        knows("tied=2");
        knows("village=1");
    }

    /** "near: how many other VILLAGES are FAR at most 1"; "of each two VILLAGES that are FAR at most 1, MET is one more". */
    private static void nearAndMet() {
        for (int dx = -3; dx <= 3; dx++) {
            for (int dy = -3; dy <= 3; dy++) {
                if (dx == 0 && dy == 0) {
                    continue;
                }
                TownsUnderSail t = new TownsUnderSail();
                t.village(4, 4, 0, 1, 0);
                t.village(4 + dx, 4 + dy, 0, 0, 1);
                boolean near = Math.abs(dx) <= 1 && Math.abs(dy) <= 1;
                Due.tell(t, 0, "furl when near=" + (near ? 1 : 0) + "; sail;");
                Due.is("near by " + dx + ", " + dy, t.hours(2), 0);
                Due.is("met by " + dx + ", " + dy, t.met(0, 1), near ? 2 : 0);
                Due.is("met by " + dx + ", " + dy, t.met(1, 0), near ? 2 : 0);
                Due.tell(t, 0, "furl;");
                Due.tell(t, 1, "sail when near=" + (near ? 1 : 0) + " and tied=0; furl;");
                t.set(1, 1, 1);
                t.wind(2, dy < 0 ? 4 : 0, 1, 0);
                boolean blocked = dx == 0 && Math.abs(dy) == 1;
                Due.is("the second one's near by " + dx + ", " + dy, t.hours(1), blocked ? 0 : 1);
            }
        }
        TownsUnderSail t = sailing(8, 8);
        t.village(4, 4, 0, 1, 0);
        t.village(4, 3, 0, 0, 1);
        t.wind(0, 4, 1, 0);
        t.hours(1);
        Due.is("MET behind the steps", t.met(0, 1), 0);
        t.wind(1, 0, 1, 0);
        t.hours(1);
        Due.is("met", t.met(0, 1), 1);
    }

    /** "THIRST of each is 0, if a WELL is FAR at most 1, else one more". */
    private static void wellsNear() {
        for (int dx = -2; dx <= 2; dx++) {
            for (int dy = -2; dy <= 2; dy++) {
                TownsUnderSail t = new TownsUnderSail();
                t.village(4, 4, 0, 1, 0);
                t.hours(5);
                t.well(4 + dx, 4 + dy, true);
                t.hours(1);
                boolean near = Math.abs(dx) <= 1 && Math.abs(dy) <= 1;
                Due.is("thirst by a well at " + dx + ", " + dy, t.of(0, 7), near ? 0 : 6);
                t.well(4 + dx, 4 + dy, false);
                t.hours(1);
                Due.is("and without it", t.of(0, 7), near ? 1 : 7);
            }
        }
        int[][] corners = {{0, 0}, {11, 0}, {0, 11}, {11, 11}};
        for (int[] c : corners) {
            TownsUnderSail t = new TownsUnderSail();
            t.plain(12, 12);
            t.village(c[0], c[1], 0, 0, 0);
            t.village(11 - c[0], 5, 0, 0, 0);
            t.well(c[0], c[1] == 0 ? 1 : 10, true);
            t.hours(1);
            Due.is("a well in the corner", t.of(0, 7), 0);
            Due.is("none round the edge", t.of(1, 7), 1);
        }
        int[][] sides = {{12, 12}, {12, 3}, {3, 12}, {5, 4}};
        for (int[] s : sides) {
            wellsRoundCorner(s[0], s[1], 0, 0);
            wellsRoundCorner(s[0], s[1], s[0] - 1, 0);
            wellsRoundCorner(s[0], s[1], 0, s[1] - 1);
            wellsRoundCorner(s[0], s[1], s[0] - 1, s[1] - 1);
        }
        TownsUnderSail t = sailing(8, 8);
        t.village(4, 6, 0, 1, 0);
        t.well(4, 4, true);
        t.hours(1);
        Due.is("THIRST behind the steps", t.of(0, 7), 0);
    }

    private static void wellsRoundCorner(int w, int h, int x, int y) {
        for (int wx = 0; wx < w; wx++) {
            for (int wy = 0; wy < h; wy++) {
                TownsUnderSail t = new TownsUnderSail();
                t.plain(w, h);
                t.village(x, y, 0, 0, 0);
                t.well(wx, wy, true);
                t.hours(1);
                boolean near = Math.abs(x - wx) <= 1 && Math.abs(y - wy) <= 1;
                Due.is("a well at " + wx + ", " + wy + " from " + x + ", " + y, t.of(0, 7), near ? 0 : 1);
            }
        }
    }

    /** "at LIMIT and 1 DRY is one more (THIRST goes on)". */
    private static void limits() {
        int[] limits = {1, 2, 24, 98, 99};
        for (int limit : limits) {
            TownsUnderSail t = new TownsUnderSail();
            t.village(4, 4, 0, 0, 0);
            if (limit != 24) {
                t.set(3, 0, limit);
            }
            t.hours(limit);
            Due.is("THIRST at LIMIT " + limit, t.of(0, 7), limit);
            Due.is("not DRY yet", t.of(0, 8), 0);
            t.hours(1);
            Due.is("DRY", t.of(0, 8), 1);
            t.hours(1);
            Due.is("DRY but once", t.of(0, 8), 1);
            t.hours(240);
            Due.is("DRY but once", t.of(0, 8), 1);
            Due.is("THIRST goes on", t.of(0, 7), limit + 242);
            t.well(4, 4, true);
            t.hours(1);
            t.well(4, 4, false);
            t.hours(limit);
            Due.is("THIRST at LIMIT again", t.of(0, 7), limit);
            Due.is("not DRY again yet", t.of(0, 8), 1);
            t.hours(1);
            Due.is("DRY again", t.of(0, 8), 2);
        }
        TownsUnderSail t = new TownsUnderSail();
        t.village(4, 4, 0, 0, 0);
        t.hours(10);
        t.set(3, 0, 10);
        t.hours(1);
        Due.is("LIMIT told at THIRST", t.of(0, 8), 1);
        t.set(3, 0, 10);
        t.hours(1);
        Due.is("LIMIT told below THIRST", t.of(0, 8), 1);
        t.set(3, 0, 13);
        t.hours(1);
        Due.is("at a greater LIMIT", t.of(0, 8), 1);
        t.hours(1);
        Due.is("above a greater LIMIT", t.of(0, 8), 2);
    }

    /** "NONE - 1 if there is none such, or another what." */
    private static void askOf() {
        TownsUnderSail t = Whole.small();
        int[] nobody = {-1, 3, 9, 10, MIN, MAX};
        for (int n : nobody) {
            for (int what = -1; what <= 11; what++) {
                Due.is("of(" + n + ", " + what + ")", t.of(n, what), -2);
            }
        }
        int[] bad = {-1, -2, 11, 12, MIN, MAX};
        for (int b : bad) {
            for (int v = 0; v < 3; v++) {
                Due.is("of(" + v + ", " + b + ")", t.of(v, b), -2);
            }
        }
        for (int what = 0; what <= 10; what++) {
            Due.is("of(2, " + what + ") is told", t.of(2, what) >= 0, true);
        }
    }

    /** "MET of two unlike VILLAGES; NONE if one can't be." */
    private static void askMet() {
        TownsUnderSail t = Whole.small();
        int[] nobody = {-1, 3, 9, 10, MIN, MAX};
        for (int n : nobody) {
            for (int v = 0; v < 3; v++) {
                Due.is("met(" + n + ", " + v + ")", t.met(n, v), -1);
                Due.is("met(" + v + ", " + n + ")", t.met(v, n), -1);
            }
            Due.is("met(" + n + ", " + n + ")", t.met(n, n), -1);
        }
        for (int a = 0; a < 3; a++) {
            for (int b = 0; b < 3; b++) {
                Due.is("met(" + a + ", " + b + ") is told", t.met(a, b) >= 0, a != b);
            }
        }
        TownsUnderSail ten = new TownsUnderSail();
        ten.plain(10, 3);
        for (int v = 0; v < 10; v++) {
            ten.village(v, 1, 0, 0, 0);
        }
        ten.hours(3);
        for (int v = 0; v < 9; v++) {
            Due.is("neighbours", ten.met(v, v + 1), 3);
            Due.is("neighbours", ten.met(v + 1, v), 3);
            Due.is("not so near", ten.met(v, (v + 2) % 10), 0);
        }
        Due.is("no eleventh", ten.met(9, 10), -1);
    }

    /** "NONE if there is none such, or another what." */
    private static void askTie() {
        TownsUnderSail t = Whole.small();
        int[] none = {-1, 2, 19, 20, MIN, MAX};
        for (int n : none) {
            for (int what = 0; what <= 3; what++) {
                Due.is("tie(" + n + ", " + what + ")", t.tie(n, what), -1);
            }
        }
        int[] bad = {-1, 4, 5, MIN, MAX};
        for (int b : bad) {
            Due.is("tie(0, " + b + ")", t.tie(0, b), -1);
            Due.is("tie(1, " + b + ")", t.tie(1, b), -1);
        }
        int[] due = {2, 1, 2};
        for (int what = 0; what < 3; what++) {
            Due.is("tie(0, " + what + ")", t.tie(0, what), due[what]);
        }
        Due.is("torn", t.tie(0, 3), 1);
        Due.is("not torn", t.tie(1, 3), 0);
    }

    /** "2 the VILLAGE (NONE). NONE - 1 if there is none such, or another what." */
    private static void askAt() {
        TownsUnderSail t = Whole.small();
        int[][] out = {{-1, 0}, {0, -1}, {5, 0}, {0, 4}, {5, 4}, {-1, -1}, {MIN, 0}, {0, MIN}, {MAX, 0}, {0, MAX}, {4, 4}, {5, 3}};
        for (int[] o : out) {
            for (int what = -1; what <= 3; what++) {
                Due.is("at(" + o[0] + ", " + o[1] + ", " + what + ")", t.at(o[0], o[1], what), -2);
            }
        }
        int[] bad = {-1, 3, 4, MIN, MAX};
        for (int b : bad) {
            Due.is("at(0, 0, " + b + ")", t.at(0, 0, b), -2);
            Due.is("at(4, 3, " + b + ")", t.at(4, 3, b), -2);
        }
        int found = 0;
        for (int c = 0; c < 20; c++) {
            int v = t.at(c % 5, c / 5, 2);
            found += v == -1 ? 0 : 1;
            Due.is("who is there", v == -1 || t.of(v, 0) == c % 5 && t.of(v, 1) == c / 5, true);
        }
        Due.is("all three", found, 3);
        Due.is("a well", t.at(0, 0, 1), 1);
        Due.is("no well", t.at(4, 3, 1), 0);
    }
}
