/** Promises 19 to 24: what is only thought. */
public final class ThoughtTest {
    private ThoughtTest() {
    }

    public static void main(String[] args) {
        soons();
        soonOverADay();
        soonStops();
        meetings();
        markets();
        odds();
        oddsStuck();
        places();
        Due.finish();
    }

    private static void calm(TownsUnderSail t) {
        for (int h = 0; h < 24; h++) {
            t.wind(h, 0, 0, 0);
        }
    }

    private static void soons() {
        TownsUnderSail t = new TownsUnderSail();
        t.village(4, 4, 10, 3, 0);
        Due.is("there", t.soon(0, 4, 4), 0);
        for (int y = 3; y >= 0; y--) {
            Due.is("up", t.soon(0, 4, y), 4 - y);
        }
        Due.is("down", t.soon(0, 4, 5), -1);
        Due.is("nobody", t.soon(1, 4, 4), -1);
        Due.is("nobody", t.soon(-1, 4, 4), -1);
        Due.is("no cell", t.soon(0, 8, 4), -1);
        Due.is("no cell", t.soon(0, 4, -1), -1);
        t.set(0, 0, 1);
        t.village(4, 3, 10, 3, 1);
        t.rope(0, 1, 1);
        Due.is("no anchors, others, ropes", t.soon(0, 4, 0), 4);
        t.wind(0, 0, 3, 10);
        Due.is("no shift; ends of hours", t.soon(0, 4, 1), 1);
        Due.is("passed by in the first hour", t.soon(0, 4, 3), 2);
        t.set(1, 0, 0);
        Due.is("no sail", t.soon(0, 4, 3), -1);
        t.wind(0, 1, 3, 0);
        Due.is("a church goes not aslant", t.soon(1, 5, 2), -1);
        t.village(0, 7, 10, 2, 2);
        Due.is("thieves", t.soon(2, 4, 3), 1);
        t.village(1, 7, 10, 2, 3);
        Due.is("a twin", t.soon(3, 2, 6), 1);
        Due.is("nothing is done", t.of(3, 0), 1);
        Due.is("nor later", t.look(2), 0);
    }

    private static void soonOverADay() {
        TownsUnderSail t = new TownsUnderSail();
        calm(t);
        t.village(0, 7, 0, 1, 0);
        t.wind(5, 2, 1, 0);
        Due.is("one day", t.soon(0, 1, 7), 6);
        Due.is("two days", t.soon(0, 2, 7), 30);
        Due.is("three days", t.soon(0, 3, 7), 54);
        Due.is("four days", t.soon(0, 4, 7), -1);
        t.wind(5, 0, 0, 0);
        t.wind(23, 2, 1, 0);
        Due.is("just 72", t.soon(0, 3, 7), 72);
        Due.is("above 72", t.soon(0, 4, 7), -1);
        t.hours(23);
        Due.is("from now on", t.soon(0, 3, 7), 49);
        Due.is("72 from now", t.soon(0, 4, 7), -1);
    }

    private static void soonStops() {
        TownsUnderSail t = new TownsUnderSail();
        calm(t);
        t.village(0, 0, 30, 3, 0);
        t.wind(0, 2, 3, 0);
        t.crust(2, 0, 29);
        Due.is("it stops ahead", t.soon(0, 1, 0), 1);
        Due.is("it can't come to it", t.soon(0, 2, 0), -1);
        Due.is("nor behind it", t.soon(0, 3, 0), -1);
        t.crust(2, 0, 30);
        Due.is("it bears", t.soon(0, 3, 0), 1);
        t.crust(0, 0, 0);
        Due.is("where it stands is not asked", t.soon(0, 0, 0), 0);
        Due.is("nor is it in going", t.soon(0, 3, 0), 1);
        t.crust(3, 0, 0);
        Due.tell(t, 0, "sail;");
        t.hours(1);
        Due.is("sunk", t.of(0, 6), 6);
        for (int h = 0; h < 24; h++) {
            t.wind(h, 2, 1, 0);
        }
        Due.is("stuck till 6, one hour then", t.soon(0, 4, 0), 6);
        Due.is("there", t.soon(0, 3, 0), 0);
    }

    private static void meetings() {
        TownsUnderSail t = new TownsUnderSail();
        calm(t);
        t.village(0, 0, 0, 1, 0);
        t.village(5, 0, 0, 1, 0);
        t.village(1, 1, 0, 0, 0);
        Due.is("now", t.meeting(0, 2), 0);
        Due.is("never", t.meeting(0, 1), -1);
        Due.is("itself", t.meeting(1, 1), -1);
        Due.is("nobody", t.meeting(0, 3), -1);
        Due.is("nobody", t.meeting(-1, 0), -1);
        t.wind(0, 2, 1, 0);
        t.wind(3, 6, 1, 0);
        t.wind(4, 2, 1, 0);
        Due.is("each as it likes", t.meeting(0, 1), 25);
        Due.is("the other way", t.meeting(1, 0), 25);
        t.wind(0, 0, 0, 0);
        t.wind(3, 0, 0, 0);
        t.wind(4, 0, 0, 0);
        t.wind(23, 2, 2, 0);
        t.set(1, 0, 2);
        Due.is("just 48", t.meeting(0, 1), 48);
        t.set(1, 0, 1);
        Due.is("above 48", t.meeting(0, 1), -1);
        TownsUnderSail u = new TownsUnderSail();
        calm(u);
        u.wind(0, 2, 1, 0);
        u.village(0, 0, 0, 1, 0);
        u.village(3, 0, 0, 0, 0);
        u.village(4, 0, 0, 0, 0);
        Due.is("hour 25", u.meeting(0, 1), 25);
        Due.is("hour 49 is too late", u.meeting(0, 2), -1);
    }

    private static void markets() {
        TownsUnderSail t = new TownsUnderSail();
        Due.is("no villages", t.market(0, 0), -1);
        calm(t);
        t.village(5, 5, 0, 1, 0);
        t.village(3, 5, 0, 1, 0);
        t.village(0, 7, 0, 1, 0);
        Due.is("one", t.market(24, 0), 1);
        Due.is("the first by y, x", t.market(24, 1), 3);
        Due.is("y", t.market(24, 2), 5);
        t.wind(0, 2, 1, 0);
        t.wind(1, 6, 1, 0);
        Due.is("one hour is too few", t.market(1, 0), 1);
        Due.is("two", t.market(2, 0), 2);
        Due.is("x", t.market(2, 1), 4);
        Due.is("y", t.market(2, 2), 5);
        Due.is("what 3", t.market(2, 3), -1);
        Due.is("what -1", t.market(2, -1), -1);
        Due.is("n -1", t.market(-1, 0), -1);
        Due.is("n 25", t.market(25, 0), -1);
        t.crust(4, 5, 3);
        t.set(2, 0, 4);
        Due.is("one can't come to it", t.market(2, 0), 1);
    }

    private static void odds() {
        TownsUnderSail t = new TownsUnderSail();
        calm(t);
        t.village(4, 4, 0, 1, 0);
        Due.is("there", t.odds(0, 4, 4, 0), 1);
        Due.is("not there", t.odds(0, 4, 3, 0), 0);
        Due.is("12 hours", t.odds(0, 4, 4, 12), 1000000000000L);
        Due.is("13 hours", t.odds(0, 4, 4, 13), -1);
        Due.is("-1 hours", t.odds(0, 4, 4, -1), -1);
        Due.is("nobody", t.odds(1, 4, 4, 0), -1);
        Due.is("no cell", t.odds(0, 8, 4, 0), -1);
        Due.is("no cell", t.odds(0, 4, -1, 0), -1);
        t.wind(0, 0, 1, 3);
        Due.is("not shifted", t.odds(0, 4, 3, 1), 7);
        Due.is("shifted", t.odds(0, 5, 3, 1), 3);
        t.wind(1, 0, 1, 3);
        Due.is("one of two hours", t.odds(0, 4, 3, 2), 91);
        Due.is("both shifted", t.odds(0, 6, 2, 2), 9);
        Due.is("one shifted, one not", t.odds(0, 5, 2, 2), 42);
        Due.is("shifted once", t.odds(0, 5, 3, 2), 51);
        t.wind(0, 0, 1, 0);
        t.wind(1, 0, 1, 10);
        Due.is("never, then always", t.odds(0, 5, 2, 2), 100);
        t.wind(0, 7, 1, 4);
        Due.is("way 8 is 0", t.odds(0, 4, 3, 1), 4);
        t.village(0, 0, 0, 1, 1);
        t.wind(0, 1, 1, 4);
        Due.is("a church goes by 2 but not by 1", t.odds(1, 1, 0, 1), 4);
    }

    private static void oddsStuck() {
        TownsUnderSail t = new TownsUnderSail();
        calm(t);
        t.village(0, 0, 30, 1, 0);
        Due.tell(t, 0, "sail;");
        t.crust(1, 0, 0);
        t.wind(0, 2, 1, 0);
        t.hours(1);
        Due.is("DUG", t.of(0, 6), 6);
        for (int h = 0; h < 24; h++) {
            t.wind(h, 2, 1, 1);
        }
        Due.is("stuck", t.odds(0, 2, 0, 5), 0);
        Due.is("it stays", t.odds(0, 1, 0, 5), 100000);
        Due.is("dug out", t.odds(0, 2, 0, 6), 900000);
        Due.is("shifted", t.odds(0, 2, 1, 6), 100000);
        Due.is("it can't come back to where it sank", t.odds(0, 1, 0, 6), 1000000);
    }

    private static void places() {
        TownsUnderSail t = new TownsUnderSail();
        calm(t);
        t.village(4, 4, 10, 2, 0);
        Due.is("not seen", t.places(0, 0, -1), -1);
        int[][] bad = {{1, 0, 0, 0}, {-1, 0, 0, 0}, {0, 8, 0, 0}, {0, 0, 8, 0}, {0, -1, 0, 0}, {0, 0, -1, 0},
            {0, 0, 0, -1}, {0, 0, 0, 10000}};
        for (int[] b : bad) {
            Due.is("seen wrongly", t.seen(b[0], b[1], b[2], b[3]), false);
        }
        Due.is("still not seen", t.places(0, 0, -1), -1);
        Due.is("seen", t.seen(0, 1, 6, 9999), true);
        Due.is("places", t.places(0, 24, -1), 1);
        Due.is("the place", t.places(0, 24, 0), 601);
        Due.is("no other", t.places(0, 24, 1), -1);
        Due.is("i -2", t.places(0, 24, -2), -1);
        Due.is("n 25", t.places(0, 25, -1), -1);
        Due.is("n -1", t.places(0, -1, -1), -1);
        Due.is("nobody", t.places(1, 0, -1), -1);
        // 9999 is hour 15 of its day
        t.wind(15, 0, 1, 5);
        t.wind(16, 2, 3, 0);
        int[] due = {501, 502, 503, 504, 601, 603};
        Due.is("places", t.places(0, 2, -1), due.length);
        for (int i = 0; i < due.length; i++) {
            Due.is("place " + i, t.places(0, 2, i), due[i]);
        }
        t.wind(15, 0, 1, 10);
        Due.is("all shift", t.places(0, 1, -1), 2);
        Due.is("shifted", t.places(0, 1, 0), 502);
        t.wind(15, 0, 1, 0);
        Due.is("none shift", t.places(0, 1, -1), 2);
        Due.is("not shifted", t.places(0, 1, 0), 501);
        t.crust(1, 5, 9);
        Due.is("the crust as it is now", t.places(0, 1, -1), 1);
        Due.is("seen anew", t.seen(0, 7, 7, 0), true);
        Due.is("the latest alone", t.places(0, 0, 0), 707);
        Due.is("seen where it would sink", t.crust(7, 7, 0) && t.seen(0, 7, 7, 0), true);
        Due.is("it is there", t.places(0, 0, 0), 707);
    }
}
