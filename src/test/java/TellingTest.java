/** Promises 1 to 9 and 27: what is told of the plain, and looked at. */
public final class TellingTest {
    private TellingTest() {
    }

    public static void main(String[] args) {
        newObject();
        states();
        plains();
        crusts();
        wells();
        winds();
        villages();
        settings();
        ropes();
        looks();
        Due.finish();
    }

    private static void newObject() {
        TownsUnderSail t = new TownsUnderSail();
        int[] first = {8, 8, 0, 0, 0, 0, 24, 0};
        for (int i = 0; i < first.length; i++) {
            Due.is("look(" + i + ") at first", t.look(i), first[i]);
        }
        for (int y = 0; y < 8; y++) {
            for (int x = 0; x < 8; x++) {
                Due.is("crust at first", t.at(x, y, 0), 50);
                Due.is("no well at first", t.at(x, y, 1), 0);
                Due.is("nobody at first", t.at(x, y, 2), -1);
            }
        }
        for (int h = 0; h < 24; h++) {
            Due.is("way at first", t.look(20 + 3 * h), 0);
            Due.is("force at first", t.look(21 + 3 * h), 1);
            Due.is("shift at first", t.look(22 + 3 * h), 0);
        }
        Due.is("fault at first", t.fault(0), 0);
        Due.is("fault's place at first", t.fault(1), -1);
        Due.is("nothing to undo", t.undo(), false);
        Due.is("no image", t.image(false), false);
        Due.is("empty tape", t.end(1), false);
    }

    private static void states() {
        TownsUnderSail t = new TownsUnderSail();
        Due.is("state(5)", t.state(5), 0);
        Due.is("state(min)", t.state(Integer.MIN_VALUE), 5);
        Due.is("look(5)", t.look(5), Integer.MIN_VALUE);
        Due.is("state(-1)", t.state(-1), Integer.MIN_VALUE);
        t.wind(0, 0, 0, 1);
        t.hours(1);
        Due.is("state drawn from -1", t.look(5), -1664525 + 1013904223);
        t.hours(1);
        Due.is("no draw without a shift", t.look(5), -1664525 + 1013904223);
    }

    private static void plains() {
        TownsUnderSail t = new TownsUnderSail();
        int[][] bad = {{2, 8}, {8, 2}, {13, 8}, {8, 13}, {-1, 5}, {0, 0}, {Integer.MAX_VALUE, 3}, {3, Integer.MIN_VALUE}};
        t.village(7, 7, 1, 1, 1);
        for (int[] b : bad) {
            Due.is("plain(" + b[0] + ", " + b[1] + ")", t.plain(b[0], b[1]), false);
        }
        Due.is("a wrong plain does nothing", t.look(3), 1);
        Due.is("a wrong plain keeps W", t.look(0), 8);
        t.crust(1, 1, 7);
        t.well(2, 2, true);
        t.wind(5, 6, 3, 4);
        t.set(3, 0, 9);
        t.village(0, 0, 3, 2, 0);
        t.rope(0, 1, 8);
        t.seen(0, 1, 1, 7);
        t.state(77);
        Due.is("orders", Due.tell(t, 2, "sail; furl;"), 2);
        t.image(true);
        t.hours(2);
        Due.tell(t, 1, "sail sail");
        Due.feed(t, "furl;");
        Due.is("plain(12, 3)", t.plain(12, 3), true);
        Due.is("W", t.look(0), 12);
        Due.is("H", t.look(1), 3);
        Due.is("TIME", t.look(2), 0);
        Due.is("VILLAGES", t.look(3), 0);
        Due.is("ROPES", t.look(4), 0);
        Due.is("STATE stays", t.look(5), 77);
        Due.is("LIMIT", t.look(6), 24);
        Due.is("nothing undone", t.look(7), 0);
        Due.is("ORDERS", t.look(12), 0);
        Due.is("WAY", t.look(35), 0);
        Due.is("FORCE", t.look(36), 1);
        Due.is("SHIFT", t.look(37), 0);
        Due.is("CRUST", t.at(1, 1, 0), 50);
        Due.is("WELL", t.at(2, 2, 1), 0);
        Due.is("beyond H", t.at(0, 3, 0), -2);
        Due.is("last cell", t.at(11, 2, 0), 50);
        Due.is("fault stays", t.fault(0), 1);
        Due.is("fault's place stays", t.fault(1), 5);
        Due.is("the tape stays", t.text(0), 1);
        Due.is("a new village", t.village(0, 0, 1, 1, 1), 0);
        Due.is("not seen anew", t.places(0, 0, -1), -1);
        Due.is("village 1", t.village(1, 1, 1, 1, 1), 1);
        Due.is("not met anew", t.met(0, 1), 0);
        Due.is("the image stays", t.image(false), true);
        Due.is("W of the image", t.look(0), 8);
        Due.is("villages of the image", t.look(3), 2);
    }

    private static void crusts() {
        TownsUnderSail t = new TownsUnderSail();
        t.plain(5, 9);
        Due.is("crust 0", t.crust(0, 0, 0), true);
        Due.is("crust 99", t.crust(4, 8, 99), true);
        Due.is("at 0", t.at(0, 0, 0), 0);
        Due.is("at 99", t.at(4, 8, 0), 99);
        Due.is("crust -1", t.crust(0, 0, -1), false);
        Due.is("crust 100", t.crust(0, 0, 100), false);
        Due.is("crust x 5", t.crust(5, 0, 1), false);
        Due.is("crust y 9", t.crust(0, 9, 1), false);
        Due.is("crust x -1", t.crust(-1, 0, 1), false);
        Due.is("crust y -1", t.crust(0, -1, 1), false);
        Due.is("crust far out", t.crust(Integer.MAX_VALUE, Integer.MIN_VALUE, 1), false);
        Due.is("stays 0", t.at(0, 0, 0), 0);
    }

    private static void wells() {
        TownsUnderSail t = new TownsUnderSail();
        Due.is("well", t.well(3, 4, true), true);
        Due.is("at", t.at(3, 4, 1), 1);
        Due.is("beside it", t.at(4, 3, 1), 0);
        Due.is("no well", t.well(3, 4, false), true);
        Due.is("at", t.at(3, 4, 1), 0);
        Due.is("well x 8", t.well(8, 0, true), false);
        Due.is("well y 8", t.well(0, 8, true), false);
        Due.is("well x -1", t.well(-1, 0, true), false);
        Due.is("well y -1", t.well(0, -1, true), false);
    }

    private static void winds() {
        TownsUnderSail t = new TownsUnderSail();
        Due.is("wind", t.wind(23, 7, 3, 10), true);
        Due.is("way", t.look(89), 7);
        Due.is("force", t.look(90), 3);
        Due.is("shift", t.look(91), 10);
        int[][] bad = {{-1, 0, 0, 0}, {24, 0, 0, 0}, {0, -1, 0, 0}, {0, 8, 0, 0},
            {0, 0, -1, 0}, {0, 0, 4, 0}, {0, 0, 0, -1}, {0, 0, 0, 11}};
        for (int[] b : bad) {
            Due.is("a wrong wind", t.wind(b[0], b[1], b[2], b[3]), false);
        }
        Due.is("way of 0", t.look(20), 0);
        Due.is("force of 0", t.look(21), 1);
        Due.is("shift of 0", t.look(22), 0);
        Due.is("wind of 0", t.wind(0, 0, 0, 0), true);
        Due.is("force of 0", t.look(21), 0);
    }

    private static void villages() {
        TownsUnderSail t = new TownsUnderSail();
        int[][] bad = {{-1, 0, 0, 0, 0}, {8, 0, 0, 0, 0}, {0, -1, 0, 0, 0}, {0, 8, 0, 0, 0}, {0, 0, -1, 0, 0},
            {0, 0, 100, 0, 0}, {0, 0, 0, -1, 0}, {0, 0, 0, 4, 0}, {0, 0, 0, 0, -1}, {0, 0, 0, 0, 4}};
        for (int[] b : bad) {
            Due.is("a wrong village", t.village(b[0], b[1], b[2], b[3], b[4]), -1);
        }
        Due.is("none came", t.look(3), 0);
        Due.is("the first", t.village(3, 5, 99, 3, 3), 0);
        Due.is("on it", t.village(3, 5, 0, 0, 0), -1);
        int[] due = {3, 5, 99, 3, 3, 0, 0, 0, 0, 0, 0, -2};
        for (int i = 0; i < due.length; i++) {
            Due.is("of(0, " + i + ")", t.of(0, i), due[i]);
        }
        Due.is("of(0, -1)", t.of(0, -1), -2);
        Due.is("of(1, 0)", t.of(1, 0), -2);
        Due.is("of(-1, 0)", t.of(-1, 0), -2);
        Due.is("at", t.at(3, 5, 2), 0);
        for (int i = 1; i < 10; i++) {
            Due.is("village " + i, t.village(i - 1, 0, 0, 0, 0) == -1 ? t.village(0, 7, 0, 0, 0) : i, i);
        }
        Due.is("the eleventh", t.village(6, 6, 0, 0, 0), -1);
        Due.is("ten", t.look(3), 10);
    }

    private static void settings() {
        TownsUnderSail t = new TownsUnderSail();
        t.village(0, 0, 1, 1, 0);
        int[] most = {1, 3, 99};
        int[] asked = {5, 3, 2};
        for (int what = 0; what < 3; what++) {
            Due.is("most", t.set(what, 0, most[what]), true);
            Due.is("most told", t.of(0, asked[what]), most[what]);
            Due.is("above", t.set(what, 0, most[what] + 1), false);
            Due.is("below", t.set(what, 0, -1), false);
            Due.is("stays", t.of(0, asked[what]), most[what]);
            Due.is("least", t.set(what, 0, 0), true);
            Due.is("least told", t.of(0, asked[what]), 0);
            Due.is("nobody", t.set(what, 1, 1), false);
            Due.is("nobody", t.set(what, -1, 1), false);
        }
        Due.is("limit 1", t.set(3, 99, 1), true);
        Due.is("limit", t.look(6), 1);
        Due.is("limit 99", t.set(3, -5, 99), true);
        Due.is("limit 0", t.set(3, 0, 0), false);
        Due.is("limit 100", t.set(3, 0, 100), false);
        Due.is("limit", t.look(6), 99);
        Due.is("what 4", t.set(4, 0, 1), false);
        Due.is("what -1", t.set(-1, 0, 1), false);
    }

    private static void ropes() {
        TownsUnderSail t = new TownsUnderSail();
        t.plain(12, 12);
        t.village(0, 0, 1, 1, 0);
        t.village(11, 3, 1, 1, 0);
        t.village(1, 1, 1, 1, 0);
        Due.is("too short", t.rope(0, 1, 10), -1);
        Due.is("just long", t.rope(0, 1, 11), 0);
        Due.is("0 long", t.rope(0, 2, 0), -1);
        Due.is("13 long", t.rope(0, 2, 13), -1);
        Due.is("to itself", t.rope(2, 2, 5), -1);
        Due.is("to nobody", t.rope(0, 3, 5), -1);
        Due.is("of nobody", t.rope(-1, 0, 5), -1);
        Due.is("1 long", t.rope(2, 0, 1), 1);
        Due.is("tie(1, 0)", t.tie(1, 0), 2);
        Due.is("tie(1, 1)", t.tie(1, 1), 0);
        Due.is("tie(1, 2)", t.tie(1, 2), 1);
        Due.is("tie(1, 3)", t.tie(1, 3), 0);
        Due.is("tie(1, 4)", t.tie(1, 4), -1);
        Due.is("tie(1, -1)", t.tie(1, -1), -1);
        Due.is("tie(2, 0)", t.tie(2, 0), -1);
        Due.is("tie(-1, 0)", t.tie(-1, 0), -1);
        for (int i = 2; i < 20; i++) {
            Due.is("rope " + i, t.rope(0, 2, 12), i);
        }
        Due.is("the 21st", t.rope(0, 2, 12), -1);
        Due.is("twenty", t.look(4), 20);
    }

    private static void looks() {
        TownsUnderSail t = new TownsUnderSail();
        int[] bad = {-1, 8, 9, 14, 15, 19, 92, 93, 1000, Integer.MIN_VALUE, Integer.MAX_VALUE};
        for (int b : bad) {
            Due.is("look(" + b + ")", t.look(b), -1);
        }
        for (int k = 0; k < 4; k++) {
            Due.tell(t, k, "sail;furl;sail;furl;".substring(0, 5 * (k + 1)));
            Due.is("lines of " + k, t.look(10 + k), k + 1);
        }
        t.hours(5);
        Due.is("what can be undone", t.look(7), 5);
        t.hours(5);
        Due.is("six at most", t.look(7), 6);
        Due.is("TIME", t.look(2), 10);
        int[] out = {8, -1, Integer.MAX_VALUE, Integer.MIN_VALUE};
        for (int o : out) {
            Due.is("at out", t.at(o, 0, 0), -2);
            Due.is("at out", t.at(0, o, 0), -2);
        }
        Due.is("at(0, 0, 3)", t.at(0, 0, 3), -2);
        Due.is("at(0, 0, -1)", t.at(0, 0, -1), -2);
    }
}
