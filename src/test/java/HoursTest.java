/** Promises 14 to 18: hours go by, and what they leave behind. */
public final class HoursTest {
    private HoursTest() {
    }

    public static void main(String[] args) {
        counts();
        ways();
        kinds();
        shifts();
        staying();
        edges();
        ropesHoldOrTear();
        ropesTornAheadOfOneThatHolds();
        wearAndSink();
        meetings();
        thirsts();
        turns();
        Due.finish();
    }

    private static TownsUnderSail sailing() {
        TownsUnderSail t = new TownsUnderSail();
        for (int kind = 0; kind < 4; kind++) {
            Due.tell(t, kind, "sail;");
        }
        return t;
    }

    private static void where(TownsUnderSail t, int village, int x, int y) {
        Due.is("x of " + village, t.of(village, 0), x);
        Due.is("y of " + village, t.of(village, 1), y);
        Due.is("at its cell", t.at(x, y, 2), village);
    }

    private static void counts() {
        TownsUnderSail t = new TownsUnderSail();
        int[] bad = {0, -1, 241, Integer.MAX_VALUE, Integer.MIN_VALUE};
        for (int b : bad) {
            Due.is("hours(" + b + ")", t.hours(b), -1);
        }
        Due.is("TIME", t.look(2), 0);
        for (int i = 0; i < 41; i++) {
            Due.is("hours(240)", t.hours(240), 0);
        }
        Due.is("TIME", t.look(2), 9840);
        Due.is("beyond 9999", t.hours(160), -1);
        Due.is("TIME", t.look(2), 9840);
        Due.is("up to 9999", t.hours(159), 0);
        Due.is("TIME", t.look(2), 9999);
        Due.is("no more", t.hours(1), -1);
        Due.is("undo", t.undo(), true);
        Due.is("once more", t.hours(1), 0);
    }

    private static void ways() {
        int[] dx = {0, 1, 1, 1, 0, -1, -1, -1};
        int[] dy = {-1, -1, 0, 1, 1, 1, 0, -1};
        for (int way = 0; way < 8; way++) {
            TownsUnderSail t = sailing();
            t.village(4, 4, 0, 3, 0);
            t.wind(0, way, 2, 0);
            Due.is("two steps", t.hours(1), 2);
            where(t, 0, 4 + 2 * dx[way], 4 + 2 * dy[way]);
            Due.is("left", t.at(4, 4, 0), 49);
            Due.is("passed", t.at(4 + dx[way], 4 + dy[way], 0), 49);
            Due.is("come to", t.at(4 + 2 * dx[way], 4 + 2 * dy[way], 0), 50);
            Due.is("nobody left behind", t.at(4, 4, 2), -1);
        }
    }

    private static void kinds() {
        for (int sail = 0; sail <= 3; sail++) {
            for (int force = 0; force <= 3; force++) {
                int most = Math.min(sail, force);
                int[] straight = {most, most, 2 * most, most > 0 ? 1 : 0};
                for (int kind = 0; kind < 4; kind++) {
                    TownsUnderSail t = sailing();
                    t.village(0, 7, 0, sail, kind);
                    t.wind(0, 0, force, 0);
                    t.wind(1, 3, force, 0);
                    Due.is("steps straight of kind " + kind, t.hours(1), straight[kind]);
                    t.wind(1, 3, force, 0);
                    int slant = kind == 1 ? 0 : straight[kind];
                    Due.is("steps aslant of kind " + kind, t.hours(1), Math.min(slant, straight[kind]));
                    Due.is("all steps", t.of(0, 9), straight[kind] + slant);
                }
            }
        }
    }

    private static void shifts() {
        for (int shift = 0; shift <= 10; shift++) {
            TownsUnderSail t = sailing();
            t.plain(12, 12);
            Due.tell(t, 0, "sail;");
            t.village(0, 11, 0, 1, 0);
            int state = 12345 + shift;
            t.state(state);
            int x = 0;
            int y = 11;
            for (int h = 0; h < 11; h++) {
                t.wind(h, 0, 1, shift);
                if (shift > 0) {
                    state = state * 1664525 + 1013904223;
                    if ((state >>> 8) % 10 < shift) {
                        x++;
                    }
                }
                y--;
                t.hours(1);
                where(t, 0, x, y);
                Due.is("STATE", t.look(5), state);
            }
        }
        TownsUnderSail t = sailing();
        t.village(4, 4, 0, 1, 0);
        t.village(6, 6, 0, 1, 1);
        t.wind(0, 7, 1, 10);
        Due.tell(t, 0, "sail when way=0;");
        Due.is("way 8 is 0, a church goes by it", t.hours(1), 2);
        where(t, 0, 4, 3);
        where(t, 1, 6, 5);
        Due.is("the wind told stays", t.look(20), 7);
    }

    private static void staying() {
        TownsUnderSail t = sailing();
        t.village(4, 7, 0, 1, 0);
        t.set(0, 0, 1);
        Due.is("anchored", t.hours(1), 0);
        t.set(0, 0, 0);
        Due.is("not anchored", t.hours(1), 1);
        Due.tell(t, 0, "");
        Due.is("no orders", t.hours(1), 0);
        Due.tell(t, 0, "furl;");
        Due.is("furled", t.hours(1), 0);
        Due.tell(t, 1, "sail;");
        Due.is("another kind's orders", t.hours(1), 0);
    }

    private static void edges() {
        TownsUnderSail t = sailing();
        t.village(1, 0, 0, 3, 0);
        t.village(1, 2, 0, 3, 0);
        t.village(7, 1, 0, 3, 2);
        t.wind(0, 0, 3, 0);
        Due.is("stopped by the edge and by another one", t.hours(1), 2);
        where(t, 0, 1, 0);
        where(t, 1, 1, 1);
        where(t, 2, 7, 0);
    }

    private static void ropesHoldOrTear() {
        for (int weight = 4; weight <= 6; weight++) {
            TownsUnderSail t = sailing();
            t.village(0, 7, 5, 3, 0);
            t.village(0, 6, weight, 0, 1);
            t.rope(1, 0, 2);
            t.wind(0, 2, 3, 0);
            boolean tears = weight < 5;
            Due.is("steps", t.hours(1), tears ? 3 : 2);
            Due.is("torn", t.tie(0, 3), tears ? 1 : 0);
            where(t, 0, tears ? 3 : 2, 7);
            Due.is("crust below", t.at(2, 7, 0), tears ? 49 : 50);
        }
    }

    private static void ropesTornAheadOfOneThatHolds() {
        TownsUnderSail t = sailing();
        t.village(3, 3, 5, 3, 0);
        t.village(3, 4, 1, 0, 1);
        t.village(4, 4, 9, 0, 1);
        t.village(2, 4, 1, 0, 1);
        t.rope(0, 1, 1);
        t.rope(0, 1, 2);
        t.rope(2, 0, 1);
        t.rope(3, 0, 1);
        t.wind(0, 0, 3, 0);
        Due.is("held ahead of the first step", t.hours(1), 0);
        Due.is("torn", t.tie(0, 3), 1);
        Due.is("long enough", t.tie(1, 3), 0);
        Due.is("held", t.tie(2, 3), 0);
        Due.is("not asked any more", t.tie(3, 3), 0);
        t.set(0, 0, 0);
        t.set(2, 2, 4);
        t.wind(1, 0, 2, 0);
        Due.is("all tear", t.hours(1), 2);
        for (int i = 0; i < 4; i++) {
            Due.is("torn " + i, t.tie(i, 3), 1);
        }
    }

    private static void wearAndSink() {
        TownsUnderSail t = sailing();
        t.village(3, 7, 20, 3, 0);
        t.crust(3, 7, 0);
        t.crust(3, 6, 20);
        t.crust(3, 5, 19);
        t.wind(2, 0, 3, 0);
        for (int h = 9; h < 24; h++) {
            t.wind(h, 0, 1, 0);
        }
        t.wind(0, 0, 0, 0);
        t.wind(1, 0, 0, 0);
        t.hours(2);
        Due.is("it sinks behind two steps", t.hours(1), 2);
        where(t, 0, 3, 5);
        Due.is("0 at least", t.at(3, 7, 0), 0);
        Due.is("one less", t.at(3, 6, 0), 19);
        Due.is("DUG", t.of(0, 6), 8);
        Due.is("SANK", t.of(0, 10), 1);
        Due.is("stuck", t.hours(5), 0);
        Due.is("TIME is DUG", t.look(2), 8);
        Due.is("it goes on", t.hours(1), 1);
        Due.is("SANK", t.of(0, 10), 1);
        Due.is("DUG stays", t.of(0, 6), 8);
        Due.is("the cell it was stuck in wears", t.at(3, 5, 0), 18);
    }

    private static void meetings() {
        TownsUnderSail t = new TownsUnderSail();
        t.village(0, 0, 0, 0, 0);
        t.village(1, 1, 0, 0, 0);
        t.village(2, 2, 0, 0, 0);
        t.village(3, 0, 0, 0, 0);
        t.hours(7);
        Due.is("met(0, 1)", t.met(0, 1), 7);
        Due.is("met(1, 0)", t.met(1, 0), 7);
        Due.is("met(2, 1)", t.met(2, 1), 7);
        Due.is("met(0, 2)", t.met(0, 2), 0);
        Due.is("met(3, 1)", t.met(3, 1), 0);
        Due.is("met(1, 1)", t.met(1, 1), -1);
        Due.is("met(0, 4)", t.met(0, 4), -1);
        Due.is("met(-1, 0)", t.met(-1, 0), -1);
    }

    private static void thirsts() {
        TownsUnderSail t = new TownsUnderSail();
        t.village(0, 0, 0, 0, 0);
        t.village(7, 7, 0, 0, 0);
        t.well(1, 1, true);
        t.set(3, 0, 2);
        t.hours(2);
        Due.is("no thirst", t.of(0, 7), 0);
        Due.is("thirst", t.of(1, 7), 2);
        Due.is("not dry at LIMIT", t.of(1, 8), 0);
        t.hours(1);
        Due.is("dry above it", t.of(1, 8), 1);
        t.hours(9);
        Due.is("thirst goes on", t.of(1, 7), 12);
        Due.is("dry once", t.of(1, 8), 1);
        t.set(3, 0, 13);
        t.hours(2);
        Due.is("dry by another limit", t.of(1, 8), 2);
        t.set(3, 0, 5);
        t.hours(2);
        Due.is("not by one that is below", t.of(1, 8), 2);
        t.well(7, 6, true);
        t.hours(1);
        Due.is("drinks", t.of(1, 7), 0);
        t.well(7, 6, false);
        t.hours(6);
        Due.is("dry again", t.of(1, 8), 3);
        t.well(5, 7, true);
        t.hours(1);
        Due.is("a well too far", t.of(1, 7), 7);
    }

    /** Each one is told on its own turn, when those ahead of it have gone already. */
    private static void turns() {
        TownsUnderSail t = sailing();
        t.village(3, 3, 0, 1, 0);
        t.village(3, 4, 0, 1, 1);
        Due.tell(t, 0, "sail when near=1;");
        Due.tell(t, 1, "sail when near=0;");
        t.wind(0, 2, 2, 0);
        Due.is("the first alone", t.hours(1), 1);
        where(t, 0, 4, 3);
        t.set(1, 0, 2);
        t.wind(1, 2, 2, 0);
        Due.is("both", t.hours(1), 3);
        where(t, 0, 6, 3);
        where(t, 1, 4, 4);
        TownsUnderSail u = sailing();
        u.village(3, 4, 0, 1, 0);
        u.village(3, 3, 0, 1, 0);
        Due.is("one waits behind the other", u.hours(1), 1);
        where(u, 0, 3, 4);
        where(u, 1, 3, 2);
    }
}
