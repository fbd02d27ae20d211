/** Promises 25 and 26: hours undone, and the image. */
public final class PastTest {
    private PastTest() {
    }

    public static void main(String[] args) {
        undone();
        tornUndone();
        forgotten();
        kept();
        images();
        imagesOfOrders();
        freshNumbers();
        Due.finish();
    }

    private static TownsUnderSail busy() {
        TownsUnderSail t = new TownsUnderSail();
        for (int h = 0; h < 24; h++) {
            t.wind(h, h * 5 % 8, 1 + h % 3, h % 11);
        }
        t.village(3, 3, 30, 2, 0);
        t.village(4, 3, 52, 3, 2);
        t.village(4, 4, 10, 1, 3);
        t.village(0, 0, 49, 3, 1);
        t.rope(0, 1, 2);
        t.rope(1, 2, 1);
        t.rope(3, 2, 4);
        t.well(5, 5, true);
        t.set(3, 0, 3);
        for (int kind = 0; kind < 4; kind++) {
            Due.tell(t, kind, kind == 2 ? "furl when hour*7/2<village+3;sail;" : "sail;");
        }
        t.state(99);
        return t;
    }

    /** All that can be asked of what an hour changes, as one text. */
    private static String all(TownsUnderSail t) {
        StringBuilder b = new StringBuilder();
        for (int what = 0; what < 92; what++) {
            b.append(what == 7 ? 0 : t.look(what)).append(' ');
        }
        for (int v = 0; v < 10; v++) {
            for (int what = 0; what <= 10; what++) {
                b.append(t.of(v, what)).append(' ');
            }
            for (int w = 0; w < 10; w++) {
                b.append(t.met(v, w)).append(' ');
            }
            b.append(t.places(v, 3, -1)).append(' ').append(t.places(v, 3, 1)).append(' ');
        }
        for (int r = 0; r < 20; r++) {
            for (int what = 0; what < 4; what++) {
                b.append(t.tie(r, what)).append(' ');
            }
        }
        for (int c = 0; c < 144; c++) {
            for (int what = 0; what < 3; what++) {
                b.append(t.at(c % 12, c / 12, what)).append(' ');
            }
        }
        return b.toString();
    }

    private static void undone() {
        TownsUnderSail t = busy();
        String[] were = new String[20];
        for (int i = 0; i < 20; i++) {
            were[i] = all(t);
            t.hours(1);
        }
        Due.is("six", t.look(7), 6);
        for (int i = 19; i >= 14; i--) {
            Due.is("undo " + i, t.undo(), true);
            Due.is("as it was at " + i, all(t).equals(were[i]), true);
            Due.is("left", t.look(7), i - 14);
        }
        Due.is("no more", t.undo(), false);
        t.hours(6);
        String later = all(t);
        t.undo();
        t.undo();
        t.hours(2);
        Due.is("the same again", all(t).equals(later), true);
        Due.is("six again", t.look(7), 6);
        TownsUnderSail u = busy();
        u.hours(20);
        Due.is("in one call as in many", all(u).equals(later), true);
        for (int i = 19; i >= 14; i--) {
            Due.is("undo " + i, u.undo(), true);
            Due.is("as it was at " + i, all(u).equals(were[i]), true);
        }
        Due.is("no more", u.undo(), false);
    }

    private static void tornUndone() {
        TownsUnderSail t = new TownsUnderSail();
        t.village(3, 6, 9, 1, 0);
        t.village(3, 7, 1, 0, 1);
        t.rope(0, 1, 1);
        t.rope(1, 0, 2);
        Due.tell(t, 0, "sail;");
        t.hours(3);
        Due.is("torn", t.tie(0, 3), 1);
        Due.is("torn", t.tie(1, 3), 1);
        t.undo();
        t.undo();
        Due.is("still torn", t.tie(0, 3), 1);
        Due.is("whole again", t.tie(1, 3), 0);
        t.undo();
        Due.is("whole again", t.tie(0, 3), 0);
        Due.is("not met yet", t.met(0, 1), 0);
    }

    private static void forgets(String what, TownsUnderSail t, boolean forgets) {
        Due.is(what + ": what can be undone", t.look(7), forgets ? 0 : 3);
        t.undo();
        t.undo();
        t.undo();
        t.hours(3);
    }

    private static void forgotten() {
        TownsUnderSail t = busy();
        t.hours(3);
        t.crust(0, 0, 50);
        forgets("crust", t, true);
        t.well(0, 0, false);
        forgets("well", t, true);
        t.wind(0, 0, 0, 0);
        forgets("wind", t, true);
        t.village(7, 7, 0, 0, 0);
        forgets("village", t, true);
        t.set(0, 0, 0);
        forgets("set 0", t, true);
        t.set(1, 0, 1);
        forgets("set 1", t, true);
        t.set(2, 0, 30);
        forgets("set 2", t, true);
        t.set(3, 0, 3);
        forgets("set 3", t, true);
        t.rope(0, 4, 12);
        forgets("rope", t, true);
        t.image(true);
        t.image(false);
        forgets("image", t, true);
        t.plain(4, 4);
        forgets("plain", t, true);
    }

    private static void kept() {
        TownsUnderSail t = busy();
        t.hours(3);
        t.crust(0, 0, 100);
        t.well(0, 8, true);
        t.wind(24, 0, 0, 0);
        t.village(8, 0, 0, 0, 0);
        t.set(0, 9, 0);
        t.set(3, 0, 0);
        t.rope(0, 0, 5);
        t.hours(241);
        t.plain(2, 2);
        forgets("what can't be", t, false);
        t.seen(0, 1, 1, 1);
        forgets("seen", t, false);
        t.image(true);
        forgets("an image taken", t, false);
        Due.tell(t, 0, "furl;");
        forgets("text", t, false);
        t.state(4711);
        forgets("state", t, false);
        t.state(5);
        t.hours(1);
        t.state(6);
        t.undo();
        Due.is("STATE goes back", t.look(5), 5);
        Due.is("what was seen stays", t.places(0, 0, 0), 101);
        Due.is("orders stay", t.look(10), 1);
    }

    private static void images() {
        TownsUnderSail t = busy();
        Due.is("none", t.image(false), false);
        t.seen(1, 2, 2, 5);
        t.hours(5);
        Due.is("taken", t.image(true), true);
        String was = all(t);
        t.hours(7);
        String later = all(t);
        for (int i = 0; i < 3; i++) {
            Due.is("back", t.image(false), true);
            Due.is("as it was", all(t).equals(was), true);
            Due.is("nothing to undo", t.look(7), 0);
            Due.is("undo", t.undo(), false);
            t.hours(7);
            Due.is("all goes on", all(t).equals(later), true);
            Due.tell(t, 0, "furl;sail;");
            Due.tell(t, 2, "sail;sail;sail;");
            t.set(2, 0, 99);
            t.seen(1, 5, 5, 5);
            t.state(1);
            if (i == 1) {
                t.plain(12, 12);
                for (int v = 0; v < 4; v++) {
                    t.village(11 - v, v, v, 0, v);
                }
                t.rope(2, 0, 11);
                t.rope(3, 1, 12);
                t.rope(0, 3, 10);
            }
        }
        Due.tell(t, 0, "sail 1");
        Due.feed(t, "furl;furl;");
        t.image(false);
        Due.is("fault stays", t.fault(0), 1);
        Due.is("its place stays", t.fault(1), 5);
        Due.is("the tape stays", t.text(3), 2);
        Due.is("taken anew", t.image(true), true);
        was = all(t);
        t.hours(1);
        t.image(false);
        Due.is("as it was", all(t).equals(was), true);
        Due.is("orders too", t.look(13), 2);
    }

    /** What orders say, not only how many lines they have, is as it was when the image was taken. */
    private static void imagesOfOrders() {
        String[] claims = {"x=3", "y=4", "near=1", "tied=1", "not (x=5 or near=2)", "crust-tied=49", "village+near=1"};
        for (String claim : claims) {
            TownsUnderSail t = new TownsUnderSail();
            t.village(3, 4, 1, 1, 0);
            t.village(2, 5, 1, 1, 1);
            t.rope(0, 1, 5);
            t.seen(0, 6, 2, 17);
            Due.tell(t, 0, "furl when hour>0; sail when " + claim + ";");
            t.image(true);
            Due.tell(t, 0, "furl when 1=1 or 2=2; furl when 3=3;");
            t.seen(0, 1, 1, 3);
            Due.is("other orders", t.hours(1), 0);
            t.image(false);
            Due.is("lines", t.look(10), 2);
            Due.is("where it was seen", t.places(0, 0, 0), 206);
            Due.is("the orders of the image: " + claim, t.hours(2), 1);
            t.seen(0, 5, 7, 3);
            t.image(true);
            t.seen(0, 4, 4, 3);
            Due.tell(t, 0, "");
            t.image(false);
            Due.is("where it was seen then", t.places(0, 0, 0), 705);
            Due.is("lines", t.look(10), 2);
            t.seen(0, 6, 6, 23);
            t.wind(23, 4, 1, 0);
            t.image(true);
            t.seen(0, 6, 6, 0);
            t.image(false);
            Due.is("when it was seen", t.places(0, 1, 1), 706);
        }
    }

    /** Numbers used once more on a new plain bring nothing along. */
    private static void freshNumbers() {
        TownsUnderSail t = new TownsUnderSail();
        t.village(3, 3, 60, 3, 0);
        t.village(3, 4, 1, 0, 0);
        t.rope(0, 1, 1);
        t.set(3, 0, 1);
        Due.tell(t, 0, "sail;");
        t.hours(3);
        t.set(0, 0, 1);
        Due.is("torn", t.tie(0, 3), 1);
        Due.is("sunk", t.of(0, 10), 1);
        Due.is("dry", t.of(0, 8), 1);
        t.plain(8, 8);
        t.village(5, 5, 7, 2, 3);
        t.village(5, 6, 7, 2, 3);
        int[] due = {5, 5, 7, 2, 3, 0, 0, 0, 0, 0, 0};
        for (int i = 0; i < due.length; i++) {
            Due.is("of(0, " + i + ")", t.of(0, i), due[i]);
        }
        Due.is("rope", t.rope(1, 0, 2), 0);
        Due.is("not torn", t.tie(0, 3), 0);
        Due.is("not met", t.met(0, 1), 0);
        Due.is("no orders", t.hours(1), 0);
    }
}
