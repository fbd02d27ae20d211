/** Promises 25 and 26: hours undone, and the image. */
public final class PastTest {
    private PastTest() {
    }

    public static void main(String[] args) {
        undone();
        tornUndone();
        forgotten();
        kept();
        images();
        imagesOfOrders();
        freshNumbers();
        Due.finish();
    }

    private static TownsUnderSail busy() {
        TownsUnderSail t = new TownsUnderSail();
        for (int h = 0; h < 24; h++) {
            t.wind(h, h * 5 % 8, 1 + h % 3, h % 11);
        }
        t.village(3, 3, 30, 2, 0);
        t.village(4, 3, 52, 3, 2);
        t.village(4, 4, 10, 1, 3);
        t.village(0, 0, 49, 3, 1);
        t.rope(0, 1, 2);
        t.rope(1, 2, 1);
        t.rope(3, 2, 4);
        t.well(5, 5, true);
        t.set(3, 0, 3);
        for (int kind = 0; kind < 4; kind++) {
            Due.tell(t, kind, kind == 2 ? "furl when hour*7/2<village+3;sail;" : "sail;");
        }
        t.state(99);
        return t;
    }

    private static TownsUnderSail busy(int hours) {
        TownsUnderSail t = busy();
        t.hours(hours);
        return t;
    }

    private static void undone() {
        TownsUnderSail many = busy();
        for (int i = 0; i < 20; i++) {
            many.hours(1);
        }
        Due.is("six", many.look(7), 6);
        Due.is("in one call as in many", Whole.of(busy(20)).equals(Whole.of(many)), true);
        for (int back = 1; back <= 6; back++) {
            TownsUnderSail t = busy(20);
            for (int i = 0; i < back; i++) {
                Due.is("undo " + i, t.undo(), true);
            }
            Due.is("left", t.look(7), 6 - back);
            Due.is("as it was " + back + " ago", Whole.of(t).equals(Whole.of(busy(20 - back))), true);
        }
        TownsUnderSail t = busy(20);
        t.undo();
        t.undo();
        t.hours(2);
        Due.is("six again", t.look(7), 6);
        Due.is("the same again", Whole.of(t).equals(Whole.of(busy(20))), true);
        for (int i = 0; i < 6; i++) {
            Due.is("undo " + i, t.undo(), true);
        }
        Due.is("no more", t.undo(), false);
    }

    private static void tornUndone() {
        TownsUnderSail t = new TownsUnderSail();
        t.village(3, 6, 9, 1, 0);
        t.village(3, 7, 1, 0, 1);
        t.rope(0, 1, 1);
        t.rope(1, 0, 2);
        Due.tell(t, 0, "sail;");
        t.hours(3);
        Due.is("torn", t.tie(0, 3), 1);
        Due.is("torn", t.tie(1, 3), 1);
        t.undo();
        t.undo();
        Due.is("still torn", t.tie(0, 3), 1);
        Due.is("whole again", t.tie(1, 3), 0);
        t.undo();
        Due.is("whole again", t.tie(0, 3), 0);
        Due.is("not met yet", t.met(0, 1), 0);
    }

    private static void forgets(String what, TownsUnderSail t, boolean forgets) {
        Due.is(what + ": what can be undone", t.look(7), forgets ? 0 : 3);
        t.undo();
        t.undo();
        t.undo();
        t.hours(3);
    }

    private static void forgotten() {
        TownsUnderSail t = busy();
        t.hours(3);
        t.crust(0, 0, 50);
        forgets("crust", t, true);
        t.well(0, 0, false);
        forgets("well", t, true);
        t.wind(0, 0, 0, 0);
        forgets("wind", t, true);
        t.village(7, 7, 0, 0, 0);
        forgets("village", t, true);
        t.set(0, 0, 0);
        forgets("set 0", t, true);
        t.set(1, 0, 1);
        forgets("set 1", t, true);
        t.set(2, 0, 30);
        forgets("set 2", t, true);
        t.set(3, 0, 3);
        forgets("set 3", t, true);
        t.rope(0, 4, 12);
        forgets("rope", t, true);
        t.image(true);
        t.image(false);
        forgets("image", t, true);
        t.plain(4, 4);
        forgets("plain", t, true);
    }

    private static void kept() {
        TownsUnderSail t = busy();
        t.hours(3);
        t.crust(0, 0, 100);
        t.well(0, 8, true);
        t.wind(24, 0, 0, 0);
        t.village(8, 0, 0, 0, 0);
        t.set(0, 9, 0);
        t.set(3, 0, 0);
        t.rope(0, 0, 5);
        t.hours(241);
        t.plain(2, 2);
        forgets("what can't be", t, false);
        t.seen(0, 1, 1, 1);
        forgets("seen", t, false);
        t.image(true);
        forgets("an image taken", t, false);
        Due.tell(t, 0, "furl;");
        forgets("text", t, false);
        t.state(4711);
        forgets("state", t, false);
        t.state(5);
        t.hours(1);
        t.state(6);
        t.undo();
        Due.is("STATE goes back", t.look(5), 5);
        Due.is("what was seen stays", t.places(0, 0, 0), 101);
        Due.is("orders stay", t.look(10), 1);
    }

    /** An image of the fifth hour, from which much is told until it is gone back to as often as asked. */
    private static TownsUnderSail back(int often) {
        TownsUnderSail t = busy();
        Due.is("none", t.image(false), false);
        t.seen(1, 2, 2, 5);
        t.hours(5);
        Due.is("taken", t.image(true), true);
        for (int i = 0; i < often; i++) {
            t.hours(7);
            t.set(2, 0, 99);
            t.seen(1, 5, 5, 5);
            t.state(1);
            Due.tell(t, 2, "sail;sail;sail;");
            if (i == 1) {
                t.plain(12, 12);
                for (int v = 0; v < 4; v++) {
                    t.village(11 - v, v, v, 0, v);
                }
                t.rope(2, 0, 11);
                t.rope(3, 1, 12);
                t.rope(0, 3, 10);
            }
            Due.is("back", t.image(false), true);
            Due.is("nothing to undo", t.look(7), 0);
            Due.is("undo", t.undo(), false);
        }
        return t;
    }

    private static void images() {
        String was = Whole.of(back(0));
        TownsUnderSail on = back(0);
        on.hours(7);
        String later = Whole.of(on);
        for (int often = 1; often <= 3; often++) {
            Due.is("as it was", Whole.of(back(often)).equals(was), true);
            TownsUnderSail t = back(often);
            t.hours(7);
            Due.is("all goes on", Whole.of(t).equals(later), true);
        }
        TownsUnderSail t = back(1);
        Due.tell(t, 0, "sail 1");
        Due.feed(t, "furl;furl;");
        t.image(false);
        Due.is("fault stays", t.fault(0), 1);
        Due.is("its place stays", t.fault(1), 5);
        Due.is("the tape stays", t.text(3), 2);
        Due.is("taken anew", t.image(true), true);
        t.hours(1);
        t.image(false);
        Due.is("TIME of the new one", t.look(2), 5);
        Due.is("orders too", t.look(13), 2);
    }

    /** What orders say, not only how many lines they have, is as it was when the image was taken. */
    private static void imagesOfOrders() {
        String[] claims = {"x=3", "y=4", "near=1", "tied=1", "not (x=5 or near=2)", "crust-tied=49", "village+near=1"};
        for (String claim : claims) {
            TownsUnderSail t = new TownsUnderSail();
            t.village(3, 4, 1, 1, 0);
            t.village(2, 5, 1, 1, 1);
            t.rope(0, 1, 5);
            t.seen(0, 6, 2, 17);
            Due.tell(t, 0, "furl when hour>0; sail when " + claim + ";");
            t.image(true);
            Due.tell(t, 0, "furl when 1=1 or 2=2; furl when 3=3;");
            t.seen(0, 1, 1, 3);
            Due.is("other orders", t.hours(1), 0);
            t.image(false);
            Due.is("lines", t.look(10), 2);
            Due.is("where it was seen", t.places(0, 0, 0), 206);
            Due.is("the orders of the image: " + claim, t.hours(2), 1);
            t.seen(0, 5, 7, 3);
            t.image(true);
            t.seen(0, 4, 4, 3);
            Due.tell(t, 0, "");
            t.image(false);
            Due.is("where it was seen then", t.places(0, 0, 0), 705);
            Due.is("lines", t.look(10), 2);
            t.seen(0, 6, 6, 23);
            t.wind(23, 4, 1, 0);
            t.image(true);
            t.seen(0, 6, 6, 0);
            t.image(false);
            Due.is("when it was seen", t.places(0, 1, 1), 706);
        }
    }

    /** Numbers used once more on a new plain bring nothing along. */
    private static void freshNumbers() {
        TownsUnderSail t = new TownsUnderSail();
        t.village(3, 3, 60, 3, 0);
        t.village(3, 4, 1, 0, 0);
        t.rope(0, 1, 1);
        t.set(3, 0, 1);
        Due.tell(t, 0, "sail;");
        t.hours(3);
        t.set(0, 0, 1);
        Due.is("torn", t.tie(0, 3), 1);
        Due.is("sunk", t.of(0, 10), 1);
        Due.is("dry", t.of(0, 8), 1);
        t.plain(8, 8);
        t.village(5, 5, 7, 2, 3);
        t.village(5, 6, 7, 2, 3);
        int[] due = {5, 5, 7, 2, 3, 0, 0, 0, 0, 0, 0};
        for (int i = 0; i < due.length; i++) {
            Due.is("of(0, " + i + ")", t.of(0, i), due[i]);
        }
        Due.is("rope", t.rope(1, 0, 2), 0);
        Due.is("not torn", t.tie(0, 3), 0);
        Due.is("not met", t.met(0, 1), 0);
        Due.is("no orders", t.hours(1), 0);
    }
}
