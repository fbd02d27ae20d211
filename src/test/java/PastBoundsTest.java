import java.util.function.Consumer;

/** The bounds that promises 25 and 26 and the terms UNDO and THE IMAGE name: just inside and just outside. */
public final class PastBoundsTest {
    private PastBoundsTest() {
    }

    public static void main(String[] args) {
        sixAreKept();
        nothingToUndo();
        allGoesBack();
        allRopesGoBack();
        undoneAndGoneOn();
        inOneCallAsInMany();
        forgets();
        forgetsNot();
        stateGoesBack();
        noImage();
        takenAnew();
        imageHoldsAll();
        imageHoldsNot();
        backMoreThanOnce();
        takingChangesNothing();
        imageAndPlain();
        imageOfALaterPlain();
        Due.finish();
    }

    private static TownsUnderSail later(int hours) {
        TownsUnderSail t = Whole.start();
        if (hours > 0) {
            t.hours(hours);
        }
        return t;
    }

    /** "6 are kept". */
    private static void sixAreKept() {
        for (int n = 0; n <= 9; n++) {
            TownsUnderSail t = new TownsUnderSail();
            for (int i = 0; i < n; i++) {
                t.hours(1);
            }
            int kept = Math.min(n, 6);
            for (int i = 0; i < kept; i++) {
                Due.is("what can be undone of " + n, t.look(7), kept - i);
                Due.is("undo " + i + " of " + n, t.undo(), true);
                Due.is("TIME", t.look(2), n - 1 - i);
            }
            Due.is("what can be undone", t.look(7), 0);
            Due.is("no more of " + n, t.undo(), false);
            Due.is("TIME", t.look(2), n - kept);
            Due.is("one hour more", t.hours(1), 0);
            Due.is("and undone", t.undo() && !t.undo(), true);
            Due.is("TIME", t.look(2), n - kept);
        }
        TownsUnderSail t = new TownsUnderSail();
        t.hours(240);
        Due.is("six of 240", t.look(7), 6);
        for (int i = 0; i < 6; i++) {
            Due.is("undo", t.undo(), true);
        }
        Due.is("not the seventh", t.undo(), false);
        Due.is("TIME", t.look(2), 234);
    }

    /** "false if there is nothing." */
    private static void nothingToUndo() {
        Due.is("at first", new TownsUnderSail().undo(), false);
        Whole.refused("undo of nothing", 0, t -> t.set(3, 0, 2), t -> t.undo() ? 1 : 0);
        Whole.refused("undo of nothing any more", 0, PastBoundsTest::undoFour, t -> t.undo() ? 1 : 0);
    }

    private static void undoFour(TownsUnderSail t) {
        for (int i = 0; i < 4; i++) {
            Due.is("undo", t.undo(), true);
        }
    }

    /** "the latest HOUR not undone yet goes back (all of VILLAGES, ROPES, CRUST, MET, STATE, TIME)". */
    private static void allGoesBack() {
        for (int n = 1; n <= 12; n++) {
            for (int back = 1; back <= Math.min(n, 6); back++) {
                TownsUnderSail t = later(n);
                for (int i = 0; i < back; i++) {
                    Due.is("undo", t.undo(), true);
                }
                Due.is("back by " + back + " from " + n, Whole.of(t).equals(Whole.of(later(n - back))), true);
            }
        }
    }

    /** All of twenty ropes that an hour tore are whole again. */
    private static void allRopesGoBack() {
        TownsUnderSail t = new TownsUnderSail();
        t.village(3, 3, 9, 1, 0);
        t.village(3, 4, 1, 0, 1);
        for (int r = 0; r < 20; r++) {
            t.rope(r % 2, 1 - r % 2, r % 3 == 0 ? 2 : 1);
        }
        Due.tell(t, 0, "sail;");
        Due.is("two hours", t.hours(2), 2);
        for (int back = 0; back <= 2; back++) {
            for (int r = 0; r < 20; r++) {
                boolean torn = back == 0 || back == 1 && r % 3 != 0;
                Due.is("rope " + r + " " + back + " back", t.tie(r, 3), torn ? 1 : 0);
            }
            Due.is("undo", t.undo(), back < 2);
        }
    }

    private static void undoneAndGoneOn() {
        for (int back = 1; back <= 6; back++) {
            TownsUnderSail t = later(8);
            for (int i = 0; i < back; i++) {
                t.undo();
            }
            for (int i = 0; i < back; i++) {
                t.hours(1);
            }
            Due.is("six again", t.look(7), 6);
            Due.is("the same again", Whole.of(t).equals(Whole.of(later(8))), true);
        }
        TownsUnderSail t = later(8);
        for (int i = 0; i < 20; i++) {
            t.undo();
            t.undo();
            t.hours(2);
        }
        Due.is("and again", Whole.of(t).equals(Whole.of(later(8))), true);
        for (int i = 0; i < 6; i++) {
            Due.is("undo", t.undo(), true);
        }
        Due.is("no more", t.undo(), false);
        Due.is("back", Whole.of(t).equals(Whole.of(later(2))), true);
    }

    private static void inOneCallAsInMany() {
        for (int n = 5; n <= 8; n++) {
            TownsUnderSail one = later(n);
            TownsUnderSail many = later(0);
            for (int i = 0; i < n; i++) {
                many.hours(1);
            }
            Due.is("can be undone", one.look(7), Math.min(n, 6));
            Due.is("can be undone", many.look(7), Math.min(n, 6));
            for (int i = 0; i < 6; i++) {
                Due.is("undo", one.undo(), many.undo());
            }
            Due.is("back alike from " + n, Whole.of(one).equals(Whole.of(many)), true);
        }
    }

    private static void after(String call, int left, Consumer<TownsUnderSail> told) {
        TownsUnderSail t = Whole.small();
        Due.is("what can be undone", t.look(7), 4);
        told.accept(t);
        Due.is("what can be undone behind " + call, t.look(7), left);
        Due.is("undo behind " + call, t.undo(), left > 0);
    }

    /** "whatever else is told but texts, SEEN, STATE forgets them", the same as before too. */
    private static void forgets() {
        after("plain", 0, t -> t.plain(6, 6));
        after("plain, the same", 0, t -> t.plain(5, 4));
        after("crust", 0, t -> t.crust(4, 2, 7));
        after("crust, the same", 0, t -> t.crust(4, 2, t.at(4, 2, 0)));
        after("well", 0, t -> t.well(4, 2, true));
        after("no well, the same", 0, t -> t.well(4, 2, false));
        after("wind", 0, t -> t.wind(3, 3, 3, 3));
        after("wind, the same", 0, t -> t.wind(3, 0, 1, 0));
        after("village", 0, t -> t.village(2, 0, 0, 0, 0));
        after("anchored", 0, t -> t.set(0, 0, 1));
        after("not anchored, the same", 0, t -> t.set(0, 0, 0));
        after("sail", 0, t -> t.set(1, 0, 1));
        after("weight", 0, t -> t.set(2, 0, 11));
        after("limit", 0, t -> t.set(3, 0, 11));
        after("limit, the same", 0, t -> t.set(3, 0, 2));
        after("rope", 0, t -> t.rope(0, 2, 12));
        after("the image gone back to", 0, t -> t.image(false));
    }

    private static void forgetsNot() {
        after("a text", 4, t -> Due.tell(t, 0, "furl;"));
        after("an empty text", 4, t -> Due.tell(t, 0, ""));
        after("a fault", 4, t -> Due.tell(t, 0, "furl"));
        after("no such kind", 4, t -> t.text(4));
        after("a feed", 4, t -> t.feed(1, 2, 3, 4, 5));
        after("an end", 4, t -> t.end(2));
        after("seen", 4, t -> t.seen(0, 1, 1, 1));
        after("state", 4, t -> t.state(7));
        after("the image taken", 4, t -> t.image(true));
        after("an hour", 5, t -> t.hours(1));
        after("two hours", 6, t -> t.hours(2));
        after("three hours", 6, t -> t.hours(3));
        after("an hour undone", 3, t -> t.undo());
        after("a question", 4, t -> t.soon(0, 0, 0));
    }

    /** What is told but does not forget: STATE goes back with the hour, texts and SEEN stay as they are told. */
    private static void stateGoesBack() {
        TownsUnderSail t = new TownsUnderSail();
        t.village(4, 4, 0, 1, 0);
        t.state(5);
        t.hours(1);
        t.state(6);
        t.wind(1, 0, 1, 5);
        t.hours(1);
        int drawn = t.state(7);
        Due.is("drawn", drawn, 6 * 1664525 + 1013904223);
        t.hours(1);
        t.state(8);
        Due.tell(t, 0, "sail;furl;");
        t.seen(0, 2, 2, 2);
        Due.is("undo", t.undo(), true);
        Due.is("STATE ahead of the third hour", t.look(5), 7);
        Due.is("undo", t.undo(), true);
        Due.is("STATE ahead of the second hour", t.look(5), 6);
        Due.is("the first was forgotten", t.undo(), false);
        Due.is("the text stays", t.look(10), 2);
        Due.is("so does SEEN", t.places(0, 0, 0), 202);
        Due.is("by the new text it goes on", t.hours(1), 1);
    }

    /** "THE IMAGE is taken (true), or gone back to (false): true; false if there is none." */
    private static void noImage() {
        TownsUnderSail t = new TownsUnderSail();
        t.village(4, 4, 9, 1, 0);
        t.hours(3);
        Due.is("none yet", t.image(false), false);
        Due.is("nothing is forgotten", t.look(7), 3);
        Due.is("the village stays", t.of(0, 2), 9);
        Due.is("TIME stays", t.look(2), 3);
        Due.is("none on a plain told anew", t.plain(3, 3) && !t.image(false), true);
        Due.is("taken", t.image(true), true);
        Due.is("gone back to", t.image(false), true);
        TownsUnderSail first = new TownsUnderSail();
        Due.is("of a new object", first.image(true), true);
        first.plain(3, 5);
        first.village(0, 0, 0, 0, 0);
        first.state(4);
        Due.is("gone back to", first.image(false), true);
        Due.is("all as at first", Whole.of(first).equals(Whole.of(new TownsUnderSail())), true);
    }

    private static void takenAnew() {
        TownsUnderSail t = Whole.small();
        t.hours(3);
        Due.is("taken anew", t.image(true), true);
        t.hours(5);
        Due.is("back", t.image(false), true);
        TownsUnderSail twin = Whole.small();
        twin.hours(3);
        Due.is("to the latest that was taken", Whole.of(t).equals(Whole.of(twin)), true);
    }

    private static void changed(String what, Consumer<TownsUnderSail> told) {
        TownsUnderSail t = Whole.small();
        t.end(0);
        t.image(true);
        told.accept(t);
        Due.is("back from " + what, t.image(false), true);
        TownsUnderSail twin = Whole.small();
        Due.is(what + " is as it was", Whole.of(t).equals(Whole.of(twin)), true);
        Due.is("nothing to undo", t.look(7), 0);
        Due.is("nothing to undo", t.undo(), false);
        t = Whole.small();
        t.end(0);
        t.image(true);
        told.accept(t);
        t.image(false);
        Due.is(what + ": steps from then on", t.hours(9), twin.hours(9));
        Due.is(what + ": all goes on from it", Whole.of(t).equals(Whole.of(twin)), true);
    }

    /** "all that is and was told .. as it was when it was taken". */
    private static void imageHoldsAll() {
        changed("hours", t -> t.hours(7));
        changed("a plain", t -> t.plain(6, 3));
        changed("a great plain", t -> t.plain(12, 12));
        changed("crust", t -> t.crust(2, 1, 3));
        changed("a well", t -> t.well(2, 1, true));
        changed("no well", t -> t.well(0, 0, false));
        changed("a wind", t -> t.wind(5, 5, 3, 6));
        changed("a village", t -> t.village(0, 2, 0, 1, 0));
        changed("anchored", t -> t.set(0, 1, 1));
        changed("sail", t -> t.set(1, 1, 0));
        changed("weight", t -> t.set(2, 1, 99));
        changed("limit", t -> t.set(3, 1, 99));
        changed("a rope", t -> t.rope(0, 1, 5));
        changed("an hour undone", t -> t.undo());
        changed("seen", t -> t.seen(1, 0, 0, 0));
        changed("seen at last", t -> t.seen(0, 0, 0, 0));
        changed("state", t -> t.state(4));
        changed("texts", PastBoundsTest::tellOtherTexts);
        changed("texts of near and tied", PastBoundsTest::tellTextsTwice);
    }

    /** The faulty one at last, so that fault() is as it was. */
    private static void tellOtherTexts(TownsUnderSail t) {
        Due.tell(t, 0, "furl when x=1;furl;sail;");
        Due.tell(t, 1, "");
        Due.tell(t, 2, "furl when 1=1 or 2=2;sail;");
        Due.tell(t, 3, "sail 1");
    }

    private static void tellTextsTwice(TownsUnderSail t) {
        for (int i = 0; i < 2; i++) {
            Due.tell(t, 2, "furl;");
            Due.tell(t, 0, "sail when tied<1 or near>0;");
        }
        Due.tell(t, 3, "sail 1");
    }

    /** "but the TAPE, fault() and what can be undone (nothing then)"; orders are held, what the latest text was is not. */
    private static void imageHoldsNot() {
        for (int k = 0; k < 4; k++) {
            TownsUnderSail t = Whole.small();
            t.image(true);
            Due.is("the tape is told as a text", t.text(k), 1);
            Due.tell(t, k, "sail;sail;sail when x/0=0;");
            Due.feed(t, "sail;furl;sail;");
            Due.is("back", t.image(false), true);
            Due.is("orders are as they were", t.look(10 + k), k == 1 ? 2 : k == 3 ? 0 : 1);
            Due.is("fault() stays", t.fault(0), 2);
            Due.is("its place stays", t.fault(1), 22);
            Due.is("the tape stays", t.end(16), false);
            Due.is("the tape stays", t.text(k), 3);
            Due.is("back", t.image(false), true);
            Due.is("the latest text had no fault", t.fault(0), 0);
            Due.is("at no place", t.fault(1), -1);
            Due.is("the tape is still empty", t.end(1), false);
        }
    }

    /** "gone back to it may be more than once". */
    private static void backMoreThanOnce() {
        TownsUnderSail t = later(0);
        t.image(true);
        for (int i = 0; i < 5; i++) {
            Due.is("steps", t.hours(9), later(0).hours(9));
            t.set(2, 0, 30 + i);
            Due.tell(t, i % 4, "furl;");
            t.seen(1, 0, 0, i);
            Due.is("back", t.image(false), true);
            Due.is("back at once again", t.image(false), true);
        }
        Due.tell(t, 3, "sail 1");
        Due.is("as it was", Whole.of(t).equals(Whole.of(later(0))), true);
    }

    private static void takingChangesNothing() {
        TownsUnderSail t = Whole.small();
        TownsUnderSail twin = Whole.small();
        t.image(true);
        Due.is("what is stays", Whole.of(t).equals(Whole.of(twin)), true);
        Due.is("so does what can be undone", t.look(7), 4);
        Due.is("and the tape", t.text(3), 1);
        t = Whole.small();
        twin = Whole.small();
        t.image(true);
        undoFour(t);
        undoFour(twin);
        Due.is("undone behind it", Whole.of(t).equals(Whole.of(twin)), true);
        Due.is("back", t.image(false), true);
        Due.is("hours that were undone since are there again", t.look(2), 4);
    }

    private static void imageAndPlain() {
        TownsUnderSail t = Whole.small();
        t.plain(12, 3);
        for (int v = 0; v < 4; v++) {
            t.village(11 - v, 2, v, 0, 3);
            t.set(0, v, 1);
            t.seen(v, v, 0, 3);
        }
        for (int r = 0; r < 4; r++) {
            t.rope(r, (r + 1) % 4, 12);
        }
        Due.is("an image outlasts a new plain", t.image(false), true);
        Due.is("W", t.look(0), 5);
        Due.is("H", t.look(1), 4);
        Due.is("no cell", t.at(5, 2, 0), -2);
        Due.is("villages", t.look(3), 3);
        Due.is("back as it was", Whole.of(t).equals(Whole.of(later(0))), true);
    }

    private static void imageOfALaterPlain() {
        TownsUnderSail t = new TownsUnderSail();
        t.plain(12, 12);
        t.crust(11, 11, 3);
        t.well(11, 11, true);
        t.village(11, 11, 99, 3, 3);
        for (int v = 1; v < 10; v++) {
            t.village(v, 0, v, 1, 0);
        }
        for (int r = 0; r < 20; r++) {
            t.rope(r % 9 + 1, 0, 12);
        }
        t.seen(9, 11, 11, 9999);
        t.hours(2);
        t.image(true);
        t.plain(3, 3);
        for (int v = 0; v < 9; v++) {
            t.village(v % 3, v / 3, 50 + v, 0, 1);
        }
        for (int r = 0; r < 20; r++) {
            t.rope(r % 2, 2 + r % 3, 7);
        }
        t.hours(1);
        Due.is("back", t.image(false), true);
        Due.is("the last cell", t.at(11, 11, 0), 3);
        Due.is("its well", t.at(11, 11, 1), 1);
        Due.is("its village", t.at(11, 11, 2), 0);
        Due.is("ten", t.look(3), 10);
        Due.is("the tenth", t.of(9, 2), 9);
        Due.is("twenty", t.look(4), 20);
        for (int r = 0; r < 20; r++) {
            Due.is("the one of rope " + r, t.tie(r, 0), r % 9 + 1);
            Due.is("the other of rope " + r, t.tie(r, 1), 0);
            Due.is("its length", t.tie(r, 2), 12);
        }
        Due.is("met", t.met(8, 9), 2);
        Due.is("seen", t.places(9, 0, 0), 1111);
    }
}
