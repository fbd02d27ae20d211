/** The bounds that promises 1 to 9 and 27 and the terms of THE PLAIN name: just inside and just outside. */
public final class TellingBoundsTest {
    private static final int MIN = Integer.MIN_VALUE;
    private static final int MAX = Integer.MAX_VALUE;

    private TellingBoundsTest() {
    }

    public static void main(String[] args) {
        newPlain();
        draws();
        sides();
        toldAnew();
        crusts();
        wells();
        winds();
        villages();
        tenVillages();
        settings();
        limits();
        ropes();
        ropesAsLongAsFar();
        twentyRopes();
        looks();
        Due.finish();
    }

    private static long yes(boolean b) {
        return b ? 1 : 0;
    }

    /** "A plain of eight by eight, nobody there." */
    private static void newPlain() {
        TownsUnderSail t = new TownsUnderSail();
        Due.is("the last cell", t.at(7, 7, 0), 50);
        Due.is("x 8", t.at(8, 7, 0), -2);
        Due.is("y 8", t.at(7, 8, 0), -2);
        Due.is("nobody", t.of(0, 0), -2);
        Due.is("no rope", t.tie(0, 0), -1);
        int[] first = {8, 8, 0, 0, 0, 0, 24, 0};
        for (int i = 0; i < first.length; i++) {
            Due.is("look(" + i + ") at first", t.look(i), first[i]);
        }
        for (int h = 0; h < 24; h++) {
            Due.is("WAY at first", t.look(20 + 3 * h), 0);
            Due.is("FORCE at first", t.look(21 + 3 * h), 1);
            Due.is("SHIFT at first", t.look(22 + 3 * h), 0);
        }
        for (int k = 0; k < 4; k++) {
            Due.is("lines at first", t.look(10 + k), 0);
        }
        for (int c = 0; c < 64; c++) {
            Due.is("CRUST at first", t.at(c % 8, c / 8, 0), 50);
            Due.is("no WELL at first", t.at(c % 8, c / 8, 1), 0);
            Due.is("nobody at first", t.at(c % 8, c / 8, 2), -1);
        }
        Due.is("STATE, an int, 0 at first", t.state(MIN), 0);
        Due.is("the least int", t.state(MAX), MIN);
        Due.is("the greatest int", t.state(0), MAX);
    }

    /** "its highest 24 bits (without sign) modulo m", "below SHIFT: WAY is one more", "ints, which wrap". */
    private static void draws() {
        int[] states = {0, 1, -1, MIN, MAX, 2, 77, 4711, -4711, 99999999, -99999999, 1 << 30, 3 << 29};
        boolean below = false;
        for (int state : states) {
            int next = (int) (1664525L * state + 1013904223L);
            int draw = (int) ((next & 0xffffffffL) / 256 % 10);
            below |= next < 0 && Math.floorMod(next >> 8, 10) != draw;
            drawn(state, next, draw + 1, true);
            if (draw > 0) {
                drawn(state, next, draw, false);
            }
        }
        Due.is("some draw tells whether there is a sign", below, true);
        drawn(5, 5, 0, false);
    }

    private static void drawn(int state, int next, int shift, boolean shifted) {
        TownsUnderSail t = new TownsUnderSail();
        t.village(4, 4, 0, 1, 0);
        Due.tell(t, 0, "sail;");
        t.wind(0, 6, 1, shift);
        t.state(state);
        t.hours(1);
        Due.is("STATE from " + state, t.look(5), next);
        Due.is("x", t.of(0, 0), 3);
        Due.is("way by shift " + shift + " from " + state, t.of(0, 1), shifted ? 3 : 4);
    }

    /** "W, H 3 .. 12"; "false, and nothing is done, if they can't be". */
    private static void sides() {
        int[] good = {3, 4, 11, 12};
        for (int w : good) {
            for (int h : good) {
                TownsUnderSail t = new TownsUnderSail();
                Due.is("plain(" + w + ", " + h + ")", t.plain(w, h), true);
                Due.is("W", t.look(0), w);
                Due.is("H", t.look(1), h);
                Due.is("the last cell", t.at(w - 1, h - 1, 0), 50);
                Due.is("x W", t.at(w, h - 1, 0), -2);
                Due.is("y H", t.at(w - 1, h, 0), -2);
                Due.is("a village in the last cell", t.village(w - 1, h - 1, 0, 0, 0), 0);
                Due.is("none at x W", t.village(w, 0, 0, 0, 0), -1);
                Due.is("none at y H", t.village(0, h, 0, 0, 0), -1);
            }
        }
        int[] bad = {2, 13, 0, -3, -8, MIN, MAX};
        for (int b : bad) {
            Whole.refused("plain(" + b + ", 5)", 0, t -> yes(t.plain(b, 5)));
            Whole.refused("plain(5, " + b + ")", 0, t -> yes(t.plain(5, b)));
        }
        Whole.refused("plain(2, 13)", 0, t -> yes(t.plain(2, 13)));
    }

    /** "told anew: all is as at first but W, H, STATE, the TAPE, fault() and THE IMAGE", with the same sides too. */
    private static void toldAnew() {
        int[][] sides = {{5, 4}, {4, 5}, {12, 3}};
        for (int[] s : sides) {
            TownsUnderSail t = Whole.small();
            t.set(0, 0, 1);
            int state = t.look(5);
            Due.is("told anew", t.plain(s[0], s[1]), true);
            TownsUnderSail fresh = new TownsUnderSail();
            fresh.plain(s[0], s[1]);
            fresh.state(state);
            Due.tell(fresh, 3, "sail 1");
            tellThree(t);
            tellThree(fresh);
            Due.is("all is as at first", Whole.of(t).equals(Whole.of(fresh)), true);
            t = Whole.small();
            t.plain(s[0], s[1]);
            Due.is("nothing to undo", t.look(7), 0);
            Due.is("nothing to undo", t.undo(), false);
            Due.is("the tape stays", t.end(6), false);
            Due.is("the tape stays", t.text(0), 1);
            Due.is("the image stays", t.image(false), true);
            Due.is("H of the image", t.look(1), 4);
        }
    }

    /** Numbers that had another village or rope ahead of that bring nothing along. */
    private static void tellThree(TownsUnderSail t) {
        for (int v = 0; v < 3; v++) {
            Due.is("village " + v, t.village(v, 2 - v, 7, 1, v), v);
        }
        Due.is("rope 0", t.rope(2, 0, 2), 0);
        Due.is("rope 1", t.rope(0, 1, 3), 1);
    }

    /** "CRUST 0 .. 99"; "false if one can't be". */
    private static void crusts() {
        TownsUnderSail t = new TownsUnderSail();
        t.plain(5, 4);
        Due.is("crust 0", t.crust(0, 0, 0), true);
        Due.is("is 0", t.at(0, 0, 0), 0);
        Due.is("crust 99", t.crust(4, 3, 99), true);
        Due.is("is 99", t.at(4, 3, 0), 99);
        Due.is("crust 1", t.crust(4, 0, 1), true);
        Due.is("crust 98", t.crust(0, 3, 98), true);
        Due.is("not the other way round", t.at(0, 3, 0), 98);
        int[][] bad = {{0, 0, -1}, {0, 0, 100}, {0, 0, MIN}, {0, 0, MAX}, {-1, 0, 9}, {0, -1, 9}, {5, 0, 9}, {0, 4, 9},
            {MIN, 0, 9}, {MAX, 0, 9}, {0, MIN, 9}, {0, MAX, 9}};
        for (int[] b : bad) {
            Whole.refused("crust(" + b[0] + ", " + b[1] + ", " + b[2] + ")", 0, u -> yes(u.crust(b[0], b[1], b[2])));
        }
    }

    /** "A WELL is at a CELL or not: true; false if one can't be." */
    private static void wells() {
        TownsUnderSail t = new TownsUnderSail();
        t.plain(5, 4);
        int[][] corners = {{0, 0}, {4, 0}, {0, 3}, {4, 3}};
        for (int[] c : corners) {
            Due.is("a well", t.well(c[0], c[1], true), true);
            Due.is("twice", t.well(c[0], c[1], true), true);
            Due.is("is there", t.at(c[0], c[1], 1), 1);
            Due.is("no well", t.well(c[0], c[1], false), true);
            Due.is("none is there", t.at(c[0], c[1], 1), 0);
            Due.is("no well twice", t.well(c[0], c[1], false), true);
        }
        int[][] bad = {{-1, 0}, {0, -1}, {5, 0}, {0, 4}, {MIN, 0}, {0, MAX}, {MAX, 0}, {0, MIN}};
        for (int[] b : bad) {
            Whole.refused("well(" + b[0] + ", " + b[1] + ", true)", 0, u -> yes(u.well(b[0], b[1], true)));
            Whole.refused("well(" + b[0] + ", " + b[1] + ", false)", 0, u -> yes(u.well(b[0], b[1], false)));
        }
    }

    /** "WINDS for each HOUR of a DAY 0 .. 23: WAY 0 .. 7, FORCE 0 .. 3, SHIFT 0 .. 10". */
    private static void winds() {
        TownsUnderSail t = new TownsUnderSail();
        int[][] good = {{0, 0, 0, 0}, {23, 7, 3, 10}, {1, 1, 1, 1}, {22, 6, 2, 9}};
        for (int[] g : good) {
            Due.is("a wind", t.wind(g[0], g[1], g[2], g[3]), true);
        }
        for (int[] g : good) {
            for (int k = 0; k < 3; k++) {
                Due.is("look(" + (20 + k + 3 * g[0]) + ")", t.look(20 + k + 3 * g[0]), g[k + 1]);
            }
        }
        int[][] bad = {{-1, 0, 0, 0}, {24, 0, 0, 0}, {0, -1, 0, 0}, {0, 8, 0, 0}, {0, 0, -1, 0}, {0, 0, 4, 0},
            {0, 0, 0, -1}, {0, 0, 0, 11}, {MIN, 0, 0, 0}, {MAX, 0, 0, 0}, {0, MIN, 0, 0}, {0, MAX, 0, 0},
            {0, 0, MIN, 0}, {0, 0, MAX, 0}, {0, 0, 0, MIN}, {0, 0, 0, MAX}, {23, 7, 3, 11}, {23, 7, 4, 10}, {23, 8, 3, 10}};
        for (int[] b : bad) {
            Whole.refused("wind(" + b[0] + ", " + b[1] + ", " + b[2] + ", " + b[3] + ")", 0,
                u -> yes(u.wind(b[0], b[1], b[2], b[3])));
        }
    }

    /** "a CELL (of its own), a WEIGHT 0 .. 99, SAIL 0 .. 3, a KIND"; "NONE if one can't be (another one is there)". */
    private static void villages() {
        TownsUnderSail t = new TownsUnderSail();
        t.plain(5, 4);
        int[][] good = {{0, 0, 0, 0, 0}, {4, 3, 99, 3, 3}, {4, 0, 98, 2, 2}, {0, 3, 1, 1, 1}};
        for (int i = 0; i < good.length; i++) {
            int[] g = good[i];
            Due.is("a village", t.village(g[0], g[1], g[2], g[3], g[4]), i);
            for (int what = 0; what < 5; what++) {
                Due.is("of(" + i + ", " + what + ")", t.of(i, what), g[what]);
            }
            Due.is("another one is there", t.village(g[0], g[1], 1, 1, 1), -1);
            Due.is("it is there", t.at(g[0], g[1], 2), i);
        }
        Due.is("on a crust that bears less", t.crust(2, 2, 0) && t.village(2, 2, 99, 0, 0) == 4, true);
        Due.is("it has not sunk", t.of(4, 6) + t.of(4, 10), 0);
        int[][] bad = {{-1, 0, 0, 0, 0}, {5, 0, 0, 0, 0}, {0, -1, 0, 0, 0}, {0, 4, 0, 0, 0}, {0, 0, -1, 0, 0},
            {0, 0, 100, 0, 0}, {0, 0, 0, -1, 0}, {0, 0, 0, 4, 0}, {0, 0, 0, 0, -1}, {0, 0, 0, 0, 4},
            {MIN, 0, 0, 0, 0}, {MAX, 0, 0, 0, 0}, {0, MIN, 0, 0, 0}, {0, MAX, 0, 0, 0}, {0, 0, MIN, 0, 0},
            {0, 0, MAX, 0, 0}, {0, 0, 0, MIN, 0}, {0, 0, 0, MAX, 0}, {0, 0, 0, 0, MIN}, {0, 0, 0, 0, MAX}};
        for (int[] b : bad) {
            Whole.refused("village(" + b[0] + ", " + b[1] + ", " + b[2] + ", " + b[3] + ", " + b[4] + ")", -1,
                u -> u.village(b[0], b[1], b[2], b[3], b[4]));
        }
        Whole.refused("where one has come to", -1, u -> u.village(u.of(0, 0), u.of(0, 1), 1, 1, 1));
        TownsUnderSail u = Whole.small();
        Due.is("it has left there", u.of(0, 0) != 1 || u.of(0, 1) != 3, true);
        Due.is("where one was but is no more", u.village(1, 3, 1, 1, 1), 3);
    }

    /** "or there are ten". */
    private static void tenVillages() {
        Whole.refused("the eleventh", -1, TellingBoundsTest::tellSeven, t -> freeCell(t));
        TownsUnderSail t = Whole.small();
        tellSeven(t);
        Due.is("ten", t.look(3), 10);
        Due.is("the tenth", t.of(9, 2), 9);
        Due.is("no eleventh", t.of(10, 2), -2);
        Due.is("none on a plain told anew", t.plain(5, 4) && t.of(0, 0) == -2, true);
        Due.is("the first again", t.village(0, 0, 1, 1, 1), 0);
    }

    private static void tellSeven(TownsUnderSail t) {
        int number = 3;
        for (int c = 0; c < 20 && number < 10; c++) {
            if (t.at(c % 5, c / 5, 2) == -1) {
                Due.is("village " + number, t.village(c % 5, c / 5, number, 1, 0), number);
                number++;
            }
        }
    }

    private static int freeCell(TownsUnderSail t) {
        int c = 19;
        while (c > 0 && t.at(c % 5, c / 5, 2) != -1) {
            c--;
        }
        return t.village(c % 5, c / 5, 1, 1, 1);
    }

    /** "What 0 ANCHORED (0, 1), 1 SAIL, 2 WEIGHT of a VILLAGE"; "false if one can't be, or another what". */
    private static void settings() {
        int[] most = {1, 3, 99};
        int[] asked = {5, 3, 2};
        for (int w = 0; w < 3; w++) {
            int what = w;
            TownsUnderSail t = Whole.small();
            Due.is("most", t.set(what, 2, most[what]), true);
            Due.is("is most", t.of(2, asked[what]), most[what]);
            Due.is("least", t.set(what, 0, 0), true);
            Due.is("is least", t.of(0, asked[what]), 0);
            Due.is("of the last alone", t.of(2, asked[what]), most[what]);
            int[] bad = {-1, most[what] + 1, MIN, MAX};
            for (int b : bad) {
                Whole.refused("set(" + what + ", 0, " + b + ")", 0, u -> yes(u.set(what, 0, b)));
            }
            int[] nobody = {-1, 3, 10, MIN, MAX};
            for (int n : nobody) {
                Whole.refused("set(" + what + ", " + n + ", 1)", 0, u -> yes(u.set(what, n, 1)));
            }
        }
        int[] others = {-1, 4, 5, MIN, MAX};
        for (int o : others) {
            Whole.refused("set(" + o + ", 0, 1)", 0, u -> yes(u.set(o, 0, 1)));
        }
    }

    /** "LIMIT 1 .. 99, 24 at first"; "3 LIMIT (VILLAGE not asked)". */
    private static void limits() {
        int[] villages = {0, -1, 3, 10, MIN, MAX};
        for (int v : villages) {
            TownsUnderSail t = Whole.small();
            Due.is("LIMIT 1", t.set(3, v, 1) && t.look(6) == 1, true);
            Due.is("LIMIT 99", t.set(3, v, 99) && t.look(6) == 99, true);
            TownsUnderSail nobody = new TownsUnderSail();
            Due.is("LIMIT at first", nobody.look(6), 24);
            Due.is("LIMIT of nobody", nobody.set(3, v, 7) && nobody.look(6) == 7, true);
        }
        int[] bad = {0, 100, -1, MIN, MAX};
        for (int b : bad) {
            Whole.refused("set(3, 0, " + b + ")", 0, u -> yes(u.set(3, 0, b)));
        }
    }

    /** "two unlike VILLAGES, a LENGTH 1 .. 12"; "NONE if one can't be". */
    private static void ropes() {
        int[][] bad = {{0, 0, 5}, {2, 2, 5}, {0, 3, 5}, {3, 0, 5}, {-1, 0, 5}, {0, -1, 5}, {0, 1, 0}, {0, 1, 13},
            {0, 1, -1}, {0, 1, MIN}, {0, 1, MAX}, {MIN, 0, 5}, {0, MAX, 5}, {MAX, MAX, 5}, {-1, -1, 5}};
        for (int[] b : bad) {
            Whole.refused("rope(" + b[0] + ", " + b[1] + ", " + b[2] + ")", -1, t -> t.rope(b[0], b[1], b[2]));
        }
        TownsUnderSail t = Whole.small();
        Due.is("12 long", t.rope(1, 0, 12), 2);
        Due.is("the one", t.tie(2, 0), 1);
        Due.is("the other", t.tie(2, 1), 0);
        Due.is("LENGTH", t.tie(2, 2), 12);
        Due.is("a second one between the two", t.rope(0, 1, 12), 3);
    }

    /** "(not less than FAR of them)"; "FAR of two CELLS: the greater of both differences". */
    private static void ropesAsLongAsFar() {
        int[][] pairs = {{0, 0, 1, 0, 1}, {0, 0, 1, 1, 1}, {5, 5, 5, 3, 2}, {5, 5, 7, 4, 2}, {2, 9, 6, 3, 6}, {0, 0, 11, 11, 11},
            {11, 0, 0, 11, 11}, {0, 7, 11, 7, 11}, {4, 11, 4, 0, 11}, {9, 2, 1, 10, 8}};
        for (int[] p : pairs) {
            TownsUnderSail t = new TownsUnderSail();
            t.plain(12, 12);
            t.village(p[0], p[1], 0, 0, 0);
            t.village(p[2], p[3], 0, 0, 0);
            Due.is("shorter than FAR", t.rope(0, 1, p[4] - 1), -1);
            Due.is("shorter than FAR", t.rope(1, 0, p[4] - 1), -1);
            Due.is("as long as FAR", t.rope(0, 1, p[4]), 0);
            Due.is("as long as FAR", t.rope(1, 0, p[4]), 1);
            Due.is("longer than FAR", t.rope(0, 1, p[4] + 1), 2);
        }
        Whole.refused("shorter than FAR", -1, t -> t.rope(0, 1, far(t, 0, 1) - 1));
        TownsUnderSail t = Whole.small();
        Due.is("as FAR as they have come", t.rope(0, 1, far(t, 0, 1)), 2);
    }

    private static int far(TownsUnderSail t, int a, int b) {
        return Math.max(Math.abs(t.of(a, 0) - t.of(b, 0)), Math.abs(t.of(a, 1) - t.of(b, 1)));
    }

    /** "or there are twenty". */
    private static void twentyRopes() {
        Whole.refused("the 21st", -1, TellingBoundsTest::tellEighteen, t -> t.rope(1, 2, 12));
        TownsUnderSail t = Whole.small();
        tellEighteen(t);
        Due.is("twenty", t.look(4), 20);
        Due.is("the 20th", t.tie(19, 2), 12);
        Due.is("no 21st", t.tie(20, 2), -1);
        Due.is("none on a plain told anew", t.plain(5, 4) && t.tie(0, 0) == -1, true);
    }

    private static void tellEighteen(TownsUnderSail t) {
        for (int i = 2; i < 20; i++) {
            Due.is("rope " + i, t.rope(i % 2, 2, 12), i);
        }
    }

    /** "NONE for another what": below 0, 8, 9, 14 .. 19, from 92 on. */
    private static void looks() {
        TownsUnderSail t = Whole.small();
        int[] bad = {-1, -2, 8, 9, 14, 15, 16, 17, 18, 19, 92, 93, 94, 95, 100, MIN, MAX};
        for (int b : bad) {
            Due.is("look(" + b + ")", t.look(b), -1);
        }
        int[] good = {0, 7, 10, 13, 20, 91};
        int[] due = {5, 4, 1, 0, 1, 0};
        for (int i = 0; i < good.length; i++) {
            Due.is("look(" + good[i] + ")", t.look(good[i]), due[i]);
        }
        t.wind(23, 5, 2, 8);
        Due.is("WAY of the last HOUR", t.look(89), 5);
        Due.is("FORCE of the last HOUR", t.look(90), 2);
        Due.is("SHIFT of the last HOUR", t.look(91), 8);
        t.wind(0, 6, 3, 7);
        Due.is("WAY of the first HOUR", t.look(20), 6);
        Due.is("FORCE of the first HOUR", t.look(21), 3);
        Due.is("SHIFT of the first HOUR", t.look(22), 7);
    }
}
