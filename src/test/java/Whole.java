import java.util.function.Consumer;
import java.util.function.ToLongFunction;

/** All that can be asked of an object as one text, and twins that must be alike; no object gets more than 512 calls. */
final class Whole {
    private Whole() {
    }

    /** A small plain on which much was told and four hours went by, with an image, a fault and a tape of five bytes. */
    static TownsUnderSail small() {
        TownsUnderSail t = start();
        t.image(true);
        t.hours(4);
        return t;
    }

    /** The same ahead of the image and the hours, in which ropes tear and hold, one sinks and all are dry. */
    static TownsUnderSail start() {
        TownsUnderSail t = new TownsUnderSail();
        t.plain(5, 4);
        t.village(1, 3, 10, 2, 0);
        t.village(3, 3, 20, 3, 1);
        t.village(4, 1, 15, 1, 2);
        t.rope(2, 1, 2);
        t.rope(0, 1, 3);
        t.well(0, 0, true);
        t.crust(2, 2, 15);
        t.crust(4, 2, 14);
        t.wind(0, 1, 2, 4);
        t.wind(1, 7, 1, 10);
        t.wind(2, 4, 3, 0);
        t.wind(5, 6, 2, 3);
        t.wind(6, 5, 3, 6);
        t.wind(7, 6, 3, 0);
        t.set(3, 0, 2);
        t.seen(1, 2, 1, 5);
        t.state(99);
        Due.tell(t, 0, "sail;");
        Due.tell(t, 1, "furl when hour>9; sail;");
        Due.tell(t, 2, "sail when near>0 or tied>0;");
        Due.tell(t, 3, "sail 1");
        Due.feed(t, "furl;");
        return t;
    }

    /** What is, but not what can be undone, the image and the tape. */
    static String of(TownsUnderSail t) {
        StringBuilder b = new StringBuilder();
        for (int what = 0; what < 92; what++) {
            if (what < 7 || what >= 10 && what < 14 || what >= 20) {
                b.append(t.look(what)).append(' ');
            }
        }
        int towns = t.look(3);
        for (int v = 0; v < towns; v++) {
            for (int what = 0; what <= 10; what++) {
                b.append(t.of(v, what)).append(' ');
            }
            for (int w = v + 1; w < towns; w++) {
                b.append(t.met(v, w)).append(' ');
            }
            b.append(t.places(v, 0, 0)).append(' ').append(t.places(v, 2, -1)).append(' ');
        }
        int ropes = t.look(4);
        for (int r = 0; r < ropes; r++) {
            for (int what = 0; what < 4; what++) {
                b.append(t.tie(r, what)).append(' ');
            }
        }
        cells(t, b);
        return b.append(t.fault(0)).append(' ').append(t.fault(1)).toString();
    }

    private static void cells(TownsUnderSail t, StringBuilder b) {
        int w = t.look(0);
        int h = t.look(1);
        for (int c = 0; c < w * h; c++) {
            b.append(t.at(c % w, c / w, 0)).append(' ').append(t.at(c % w, c / w, 1)).append(' ');
        }
    }

    private static String past(TownsUnderSail t) {
        StringBuilder b = new StringBuilder();
        b.append(t.look(7)).append(' ');
        for (int i = 0; i < 7; i++) {
            b.append(t.undo()).append(' ').append(t.look(2)).append(' ').append(t.look(5)).append(' ');
        }
        return b.append(of(t)).toString();
    }

    private static String image(TownsUnderSail t) {
        return t.image(false) + " " + of(t);
    }

    private static String tape(TownsUnderSail t) {
        int length = t.feed(0, 0, 0, 0, 0) - 20;
        for (int n = 400; n > 380 && length < 0; n--) {
            length = t.end(n) ? n : length;
        }
        return length + " " + t.end(length) + " " + t.text(3) + " " + t.fault(0) + " " + t.fault(1) + " " + t.look(13);
    }

    private static String future(TownsUnderSail t) {
        return t.hours(9) + " " + of(t);
    }

    /** A call answers what is due, and nothing is done by it: a twin without the call is alike in all that can be asked. */
    static void refused(String call, long due, Consumer<TownsUnderSail> before, ToLongFunction<TownsUnderSail> refused) {
        for (int part = 0; part < 5; part++) {
            TownsUnderSail t = small();
            TownsUnderSail twin = small();
            before.accept(t);
            before.accept(twin);
            Due.is(call, refused.applyAsLong(t), due);
            Due.is(call + " does nothing (" + part + ")", part(t, part).equals(part(twin, part)), true);
        }
    }

    static void refused(String call, long due, ToLongFunction<TownsUnderSail> refused) {
        refused(call, due, t -> { }, refused);
    }

    private static String part(TownsUnderSail t, int part) {
        switch (part) {
            case 0:
                return of(t);
            case 1:
                return past(t);
            case 2:
                return image(t);
            case 3:
                return tape(t);
            default:
                return future(t);
        }
    }
}
