/** The bounds that promises 19 to 24 and the terms of IN THOUGHT name: just inside and just outside. */
public final class ThoughtBoundsTest {
    private static final int MIN = Integer.MIN_VALUE;
    private static final int MAX = Integer.MAX_VALUE;
    private static final int[] DX = {0, 1, 1, 1, 0, -1, -1, -1};
    private static final int[] DY = {-1, -1, 0, 1, 1, 1, 0, -1};

    private ThoughtBoundsTest() {
    }

    public static void main(String[] args) {
        askSoon();
        soonAtMost();
        soonRoundTheDay();
        soonAtTheLastTime();
        soonAlone();
        narrowPlains();
        soonByKind();
        soonEdges();
        crustAndWeight();
        weakCells();
        nothingWears();
        stuckTillDug();
        askMeeting();
        meetingAtMost();
        meetingFarAtMostOne();
        meetingFromNow();
        askMarket();
        marketWithin();
        fromTimeOn();
        marketFirst();
        marketOfTen();
        askOdds();
        oddsHours();
        oddsOfShift();
        oddsSeenAhead();
        oddsStuck();
        askSeen();
        seenLatest();
        askPlaces();
        placesHours();
        placesOfShift();
        placesOfOneHour();
        placesInOrder();
        placesStuck();
        nothingIsDone();
        Due.finish();
    }

    private static long yes(boolean b) {
        return b ? 1 : 0;
    }

    /** A plain on which no wind blows but in the hours told then. */
    private static TownsUnderSail calm(int w, int h) {
        TownsUnderSail t = new TownsUnderSail();
        t.plain(w, h);
        for (int hour = 0; hour < 24; hour++) {
            t.wind(hour, 0, 0, 0);
        }
        return t;
    }

    /** One that sank at (1, 0) in the hour 0, at TIME 1; DUG is 6. All winds go by way 2 then. */
    private static TownsUnderSail sunk() {
        TownsUnderSail t = calm(12, 3);
        t.village(0, 0, 30, 1, 0);
        t.village(8, 0, 0, 1, 1);
        Due.tell(t, 0, "sail;");
        t.crust(1, 0, 0);
        t.wind(0, 2, 1, 0);
        t.hours(1);
        Due.is("DUG", t.of(0, 6), 6);
        for (int hour = 0; hour < 24; hour++) {
            t.wind(hour, 2, 1, 0);
        }
        return t;
    }

    /** "SOON; NONE if it can't, or one can't be." */
    private static void askSoon() {
        TownsUnderSail t = Whole.small();
        int[] nobody = {-1, 3, 9, 10, MIN, MAX};
        for (int n : nobody) {
            Due.is("soon(" + n + ", 0, 0)", t.soon(n, 0, 0), -1);
        }
        int[][] out = {{-1, 0}, {0, -1}, {5, 0}, {0, 4}, {MIN, 0}, {0, MIN}, {MAX, 0}, {0, MAX}};
        for (int[] o : out) {
            Due.is("soon(0, " + o[0] + ", " + o[1] + ")", t.soon(0, o[0], o[1]), -1);
        }
        for (int v = 0; v < 3; v++) {
            Due.is("0, if there", t.soon(v, t.of(v, 0), t.of(v, 1)), 0);
        }
        TownsUnderSail u = calm(3, 3);
        u.village(1, 1, 99, 0, 0);
        Due.is("0, if there, whatever the crust bears", u.soon(0, 1, 1), 0);
        Due.is("it can't", u.soon(0, 1, 0), -1);
    }

    /** "the fewest HOURS in which it can come to a CELL (0, if there; 72 at most)". */
    private static void soonAtMost() {
        for (int hour = 0; hour < 24; hour++) {
            TownsUnderSail t = calm(12, 3);
            t.village(0, 1, 0, 1, 0);
            t.wind(hour, 2, 1, 0);
            for (int x = 0; x <= 3; x++) {
                Due.is("soon at " + x, t.soon(0, x, 1), x == 0 ? 0 : hour + 1 + 24 * (x - 1));
            }
            Due.is("not by 73", t.soon(0, 4, 1), -1);
        }
        TownsUnderSail t = calm(12, 12);
        t.village(0, 11, 0, 1, 0);
        t.village(0, 10, 0, 3, 0);
        for (int hour = 0; hour < 24; hour++) {
            t.wind(hour, 0, 1, 0);
        }
        Due.is("one for each hour", t.soon(0, 0, 0), 11);
        t.wind(1, 2, 3, 0);
        Due.is("one can stay", t.soon(0, 0, 0), 12);
        Due.is("and need not", t.soon(1, 3, 0), 11);
    }

    /** "in each HOUR from TIME on", over the end of the day. */
    private static void soonRoundTheDay() {
        for (int time = 0; time <= 25; time++) {
            TownsUnderSail t = calm(12, 3);
            t.village(0, 1, 0, 1, 0);
            if (time > 0) {
                t.hours(time);
            }
            t.wind(0, 2, 1, 0);
            int wait = (48 - time) % 24;
            Due.is("from TIME " + time, t.soon(0, 1, 1), wait + 1);
            Due.is("and once more", t.soon(0, 2, 1), wait + 25);
        }
    }

    /** Hours in thought go on behind the last TIME. */
    private static void soonAtTheLastTime() {
        TownsUnderSail t = calm(12, 3);
        t.village(0, 1, 0, 1, 0);
        t.village(9, 1, 0, 0, 0);
        for (int i = 0; i < 41; i++) {
            t.hours(240);
        }
        t.hours(159);
        Due.is("TIME", t.look(2), 9999);
        t.wind(15, 2, 1, 0);
        t.wind(16, 4, 1, 0);
        Due.is("soon", t.soon(0, 1, 1), 1);
        Due.is("soon", t.soon(0, 1, 2), 2);
        Due.is("odds", t.odds(0, 1, 2, 2), 100);
        Due.is("market", t.market(2, 0), 1);
        Due.is("places", t.seen(0, 0, 1, 9999) ? t.places(0, 2, -1) : 0, 4);
    }

    /** "alone on THE PLAIN: no others, ROPES, ORDERS, ANCHORS, thirst"; "SHIFT is not asked but for ODDS and PLACES". */
    private static void soonAlone() {
        TownsUnderSail t = calm(12, 3);
        t.village(3, 1, 10, 3, 0);
        t.village(2, 1, 99, 0, 0);
        t.village(4, 1, 99, 0, 0);
        t.rope(0, 1, 1);
        t.wind(0, 2, 3, 10);
        t.set(0, 0, 1);
        t.set(3, 0, 1);
        Due.tell(t, 0, "furl;");
        Due.is("through another one", t.soon(0, 6, 1), 1);
        Due.is("to where another one is, at the end of an hour", t.set(1, 0, 1) ? t.soon(0, 4, 1) : 0, 1);
        Due.is("not by the shift", t.soon(0, 4, 2), -1);
        Due.is("nor does a meeting ask it", t.meeting(0, 2), 0);
        Due.is("market", t.market(1, 0), 2);
        Due.is("at x 4", t.market(1, 1), 4);
        Due.is("odds", t.odds(0, 4, 2, 1), 10);
        Due.is("odds", t.odds(0, 4, 1, 1), 0);
    }

    /** Cells with an x or y that the other one could not be. */
    private static void narrowPlains() {
        int[][] sides = {{3, 12}, {12, 3}, {4, 5}, {5, 4}};
        for (int[] s : sides) {
            int x = s[0] - 1;
            int y = s[1] - 1;
            TownsUnderSail t = calm(s[0], s[1]);
            t.village(x - 1, y - 1, 50, 1, 0);
            t.village(0, 0, 50, 1, 0);
            t.wind(0, 3, 1, 0);
            t.seen(0, x - 1, y - 1, 0);
            String what = "on " + s[0] + " by " + s[1];
            Due.is(what + ": soon, there", t.soon(0, x - 1, y - 1), 0);
            Due.is(what + ": soon", t.soon(0, x, y), 1);
            Due.is(what + ": soon, beyond W", t.soon(0, x + 1, y), -1);
            Due.is(what + ": soon, beyond H", t.soon(0, x, y + 1), -1);
            Due.is(what + ": odds, there", t.odds(0, x - 1, y - 1, 0), 1);
            Due.is(what + ": odds", t.odds(0, x, y, 1), 10);
            Due.is(what + ": odds to stay", t.odds(0, x - 1, y - 1, 3), 1000);
            Due.is(what + ": odds, beyond W", t.odds(0, x + 1, y, 1), -1);
            Due.is(what + ": odds, beyond H", t.odds(0, x, y + 1, 1), -1);
            Due.is(what + ": seen, beyond W", t.seen(0, x + 1, y, 1), false);
            Due.is(what + ": seen, beyond H", t.seen(0, x, y + 1, 1), false);
            Due.is(what + ": places", t.places(0, 1, -1), 2);
            Due.is(what + ": the last", t.places(0, 1, 1), 100 * y + x);
            t.village(x, y, 0, 0, 0);
            Due.is(what + ": market", t.market(1, 0), 2);
            Due.is(what + ": its x", t.market(1, 1), x);
            Due.is(what + ": its y", t.market(1, 2), y);
            t.crust(x, y, 49);
            Due.is(what + ": it can't", t.soon(0, x, y), -1);
        }
    }

    /** In thought a village makes as many steps as an hour lets it. */
    private static void soonByKind() {
        for (int way = 0; way < 8; way++) {
            for (int kind = 0; kind < 4; kind++) {
                for (int sail = 0; sail <= 3; sail++) {
                    TownsUnderSail t = calm(12, 12);
                    int x = DX[way] < 0 ? 11 : 0;
                    int y = DY[way] < 0 ? 11 : 0;
                    t.village(x, y, 0, sail, kind);
                    t.wind(0, way, 2, 0);
                    int most = Math.min(sail, 2);
                    int[] steps = {most, way % 2 == 1 ? 0 : most, 2 * most, Math.min(most, 1)};
                    int n = steps[kind];
                    String what = "kind " + kind + " way " + way + " sail " + sail;
                    Due.is(what, t.soon(0, x + n * DX[way], y + n * DY[way]), n == 0 ? 0 : 1);
                    Due.is(what + ", no further", t.soon(0, x + (n + 1) * DX[way], y + (n + 1) * DY[way]),
                        n == 1 ? 25 : -1);
                    Due.is(what + ", odds", t.odds(0, x + n * DX[way], y + n * DY[way], 1), 10);
                }
            }
        }
    }

    /** It stops at the edge in thought too; nothing goes round it. */
    private static void soonEdges() {
        for (int way = 0; way < 8; way++) {
            TownsUnderSail t = calm(5, 4);
            int x = DX[way] > 0 ? 3 : 1;
            int y = DY[way] > 0 ? 2 : 1;
            t.village(x, y, 0, 3, 2);
            t.wind(0, way, 3, 0);
            t.seen(0, x, y, 0);
            Due.is("at the edge by way " + way, t.soon(0, x + DX[way], y + DY[way]), 1);
            Due.is("there or here", t.places(0, 24, -1), 2);
            int reached = 0;
            for (int c = 0; c < 20; c++) {
                reached += t.soon(0, c % 5, c / 5) >= 0 ? 1 : 0;
            }
            Due.is("no other cell by way " + way, reached, 2);
        }
    }

    /** "where CRUST is less than its WEIGHT it can't come to (it stops ahead)". */
    private static void crustAndWeight() {
        int[][] cases = {{30, 30, 1}, {29, 30, 0}, {31, 30, 1}, {0, 0, 1}, {0, 1, 0}, {99, 99, 1}, {98, 99, 0}};
        for (int[] c : cases) {
            TownsUnderSail t = calm(12, 3);
            for (int x = 0; x < 6; x++) {
                t.crust(x, 1, 99);
            }
            t.village(0, 1, c[1], 3, 0);
            t.village(3, 0, 0, 0, 0);
            t.crust(2, 1, c[0]);
            t.wind(0, 2, 3, 0);
            boolean bears = c[2] == 1;
            String what = c[0] + " under " + c[1];
            Due.is(what + ": behind it", t.soon(0, 3, 1), bears ? 1 : -1);
            Due.is(what + ": ahead of it", t.soon(0, 1, 1), bears ? -1 : 1);
            Due.is(what + ": meeting", t.meeting(0, 1), bears ? 1 : -1);
            Due.is(what + ": odds", t.odds(0, 3, 1, 1), bears ? 10 : 0);
            Due.is(what + ": odds ahead of it", t.odds(0, 1, 1, 1), bears ? 0 : 10);
            t.seen(0, 0, 1, 0);
            Due.is(what + ": places", t.places(0, 1, 1), bears ? 103 : 101);
            t.crust(0, 1, 0);
            Due.is(what + ": where it stands is not asked", t.soon(0, 3, 1), bears ? 1 : -1);
        }
    }

    /** A cell that bears too little, wherever it lies and whichever way leads to it. */
    private static void weakCells() {
        int[][] cells = {{0, 0}, {11, 0}, {0, 11}, {11, 11}, {0, 5}, {11, 6}, {4, 0}, {7, 11}, {6, 6}};
        for (int[] c : cells) {
            for (int way = 0; way < 8; way++) {
                int x = c[0] - DX[way];
                int y = c[1] - DY[way];
                if (x >= 0 && x < 12 && y >= 0 && y < 12) {
                    weakCell(c[0], c[1], way);
                }
            }
        }
    }

    private static void weakCell(int x, int y, int way) {
        TownsUnderSail t = calm(12, 12);
        t.village(x - DX[way], y - DY[way], 50, 1, 0);
        t.wind(0, way, 1, 0);
        t.seen(0, x - DX[way], y - DY[way], 0);
        String what = "by way " + way + " to " + x + ", " + y;
        Due.is(what + " it can", t.soon(0, x, y), 1);
        Due.is(what + " it can", t.odds(0, x, y, 1), 10);
        Due.is(what + " it can", t.places(0, 1, -1), 2);
        t.crust(x, y, 49);
        Due.is(what + " it can't", t.soon(0, x, y), -1);
        Due.is(what + " it can't", t.odds(0, x, y, 1), 0);
        Due.is(what + " it can't", t.places(0, 1, -1), 1);
    }

    /** "CRUST as it is now (nothing wears)": it goes back over the cell that it left. */
    private static void nothingWears() {
        TownsUnderSail t = calm(8, 3);
        t.village(1, 1, 50, 3, 0);
        t.wind(0, 6, 1, 0);
        t.wind(1, 2, 3, 0);
        Due.is("over what it left", t.soon(0, 3, 1), 2);
        Due.is("odds over what it left", t.odds(0, 3, 1, 2), 100);
        t.seen(0, 1, 1, 0);
        Due.is("places over what it left", t.places(0, 2, 2), 103);
        Due.tell(t, 0, "sail;");
        t.hours(2);
        Due.is("in truth it sinks there", t.of(0, 10), 1);
    }

    /** "stuck it is till DUG". */
    private static void stuckTillDug() {
        TownsUnderSail t = sunk();
        Due.is("TIME", t.look(2), 1);
        Due.is("five hours stuck, then one", t.soon(0, 2, 0), 6);
        Due.is("the next", t.soon(0, 3, 0), 7);
        Due.is("market while stuck", t.market(5, 0), 1);
        t.wind(6, 2, 3, 0);
        t.set(1, 0, 3);
        Due.is("in the hour of DUG", t.soon(0, 4, 0), 6);
        for (int hour = 0; hour < 24; hour++) {
            t.wind(hour, 2, hour == 6 ? 1 : 0, 0);
        }
        Due.is("DUG's hour alone", t.soon(0, 2, 0), 6);
        t.wind(6, 2, 0, 0);
        t.wind(5, 2, 1, 0);
        Due.is("the hour ahead of it not before the next day", t.soon(0, 2, 0), 29);
        t.wind(5, 2, 0, 0);
        t.wind(6, 2, 1, 0);
        t.hours(5);
        Due.is("TIME is DUG", t.look(2), 6);
        Due.is("stuck no more", t.soon(0, 2, 0), 1);
    }

    /** "MEETING of two unlike VILLAGES; NONE if they can't, or one can't be." */
    private static void askMeeting() {
        TownsUnderSail t = Whole.small();
        int[] nobody = {-1, 3, 9, 10, MIN, MAX};
        for (int n : nobody) {
            Due.is("meeting(" + n + ", 0)", t.meeting(n, 0), -1);
            Due.is("meeting(0, " + n + ")", t.meeting(0, n), -1);
            Due.is("meeting(" + n + ", " + n + ")", t.meeting(n, n), -1);
        }
        for (int v = 0; v < 3; v++) {
            Due.is("meeting(" + v + ", " + v + ")", t.meeting(v, v), -1);
            Due.is("the same for both", t.meeting(v, (v + 1) % 3), t.meeting((v + 1) % 3, v));
        }
    }

    /** "the fewest HOURS behind which both can be FAR at most 1 (48 at most)". */
    private static void meetingAtMost() {
        for (int hour = 0; hour < 24; hour++) {
            TownsUnderSail t = calm(12, 3);
            t.village(0, 1, 0, 1, 0);
            t.village(2, 1, 0, 0, 0);
            t.village(3, 1, 0, 0, 0);
            t.village(4, 1, 0, 0, 0);
            t.wind(hour, 2, 1, 0);
            Due.is("one step", t.meeting(0, 1), hour + 1);
            Due.is("two steps", t.meeting(0, 2), hour + 25);
            Due.is("not by 49", t.meeting(0, 3), -1);
            Due.is("not by 49", t.meeting(3, 0), -1);
        }
    }

    private static void meetingFarAtMostOne() {
        for (int dx = -3; dx <= 3; dx++) {
            for (int dy = -3; dy <= 3; dy++) {
                if (dx == 0 && dy == 0) {
                    continue;
                }
                TownsUnderSail t = calm(8, 8);
                t.village(4, 4, 0, 0, 0);
                t.village(4 + dx, 4 + dy, 0, 0, 0);
                boolean near = Math.abs(dx) <= 1 && Math.abs(dy) <= 1;
                Due.is("FAR by " + dx + ", " + dy, t.meeting(0, 1), near ? 0 : -1);
                Due.is("FAR by " + dx + ", " + dy, t.meeting(1, 0), near ? 0 : -1);
            }
        }
        int[][] near = {{0, 0, 1, 1}, {11, 11, 10, 10}, {11, 10, 11, 11}, {0, 11, 1, 10}, {11, 0, 10, 1}, {5, 11, 6, 10},
            {0, 0, 1, 0}, {0, 0, 0, 1}};
        for (int[] e : near) {
            TownsUnderSail t = calm(12, 12);
            t.village(e[0], e[1], 0, 0, 0);
            t.village(e[2], e[3], 0, 0, 0);
            Due.is("near in a corner", t.meeting(0, 1), 0);
            Due.is("near in a corner", t.meeting(1, 0), 0);
        }
        int[][] ends = {{0, 0, 11, 0}, {0, 5, 11, 5}, {0, 5, 11, 6}, {11, 4, 0, 5}, {3, 0, 3, 11}, {0, 0, 11, 11}};
        for (int[] e : ends) {
            TownsUnderSail t = calm(12, 12);
            t.village(e[0], e[1], 0, 0, 0);
            t.village(e[2], e[3], 0, 0, 0);
            Due.is("not round the edge", t.meeting(0, 1), -1);
            Due.is("not round the edge", t.meeting(1, 0), -1);
        }
    }

    /** "(each alone, both from now on)". */
    private static void meetingFromNow() {
        TownsUnderSail t = calm(12, 3);
        t.village(0, 1, 0, 3, 0);
        t.village(5, 1, 0, 3, 0);
        t.wind(0, 2, 3, 0);
        t.wind(2, 6, 1, 0);
        Due.is("one goes, then the other", t.meeting(0, 1), 3);
        TownsUnderSail u = sunk();
        Due.is("one is stuck, the other goes away or stays", u.meeting(0, 1), 11);
        Due.is("one is stuck", u.meeting(1, 0), 11);
        TownsUnderSail s = calm(12, 3);
        s.village(0, 1, 0, 3, 0);
        s.village(6, 1, 0, 3, 0);
        s.wind(5, 2, 3, 0);
        Due.is("in the same cell, each alone", s.meeting(0, 1), 30);
    }

    /** "MARKET what 0 how many, 1 x, 2 y. NONE if one can't be (no VILLAGES), or another what." */
    private static void askMarket() {
        TownsUnderSail none = new TownsUnderSail();
        for (int what = -1; what <= 3; what++) {
            Due.is("no villages", none.market(0, what), -1);
            Due.is("no villages", none.market(24, what), -1);
        }
        TownsUnderSail t = Whole.small();
        int[] bad = {-1, 25, 26, MIN, MAX};
        for (int b : bad) {
            for (int what = 0; what <= 2; what++) {
                Due.is("market(" + b + ", " + what + ")", t.market(b, what), -1);
            }
        }
        int[] others = {-1, 3, 4, MIN, MAX};
        for (int o : others) {
            Due.is("market(0, " + o + ")", t.market(0, o), -1);
            Due.is("market(24, " + o + ")", t.market(24, o), -1);
        }
        for (int n = 0; n <= 24; n++) {
            Due.is("market(" + n + ", 0)", t.market(n, 0) >= 1, true);
        }
        Due.is("no villages on a plain told anew", t.plain(5, 4) ? t.market(0, 0) : 0, -1);
        t.village(4, 3, 0, 0, 0);
        Due.is("one village", t.market(0, 0), 1);
        Due.is("in the last cell: x", t.market(0, 1), 4);
        Due.is("in the last cell: y", t.market(0, 2), 3);
    }

    /** "MARKET for n HOURS (0 .. 24): .. can have come within n HOURS". */
    private static void marketWithin() {
        for (int hour = 0; hour < 24; hour++) {
            TownsUnderSail t = calm(12, 3);
            t.village(5, 1, 0, 1, 0);
            t.village(6, 1, 0, 0, 0);
            t.wind(hour, 2, 1, 0);
            Due.is("one hour too few", t.market(hour, 0), 1);
            Due.is("its x", t.market(hour, 1), 5);
            Due.is("within " + (hour + 1), t.market(hour + 1, 0), 2);
            Due.is("its x", t.market(hour + 1, 1), 6);
            Due.is("within 24", t.market(24, 0), 2);
        }
        TownsUnderSail t = sunk();
        t.village(2, 0, 0, 0, 0);
        Due.is("stuck for five hours", t.market(5, 0), 1);
        Due.is("there behind six", t.market(6, 0), 2);
        Due.is("x", t.market(6, 1), 2);
        t.set(2, 0, 51);
        Due.is("where the crust is less it can't come to", t.market(24, 0), 1);
    }

    /** Hours gone by are not thought of, neither the latest nor those of the day before. */
    private static void fromTimeOn() {
        for (int time = 1; time <= 25; time += 12) {
            TownsUnderSail t = calm(12, 3);
            t.village(5, 1, 0, 1, 0);
            t.village(6, 1, 0, 0, 0);
            t.village(7, 1, 0, 0, 0);
            t.hours(time);
            t.wind((time - 1) % 24, 2, 1, 0);
            Due.is("market of 0", t.market(0, 0), 1);
            Due.is("market of 23", t.market(23, 0), 1);
            Due.is("market of 24", t.market(24, 0), 2);
            Due.is("soon", t.soon(0, 6, 1), 24);
            Due.is("meeting", t.meeting(0, 2), 24);
            Due.is("odds", t.odds(0, 6, 1, 12), 0);
            t.seen(0, 5, 1, time);
            Due.is("places of 23", t.places(0, 23, -1), 1);
            Due.is("places of 24", t.places(0, 24, -1), 2);
        }
    }

    /** "of several the first (y, then x)". */
    private static void marketFirst() {
        int[][] pairs = {{0, 0, 1, 0, 0, 0}, {1, 0, 0, 0, 0, 0}, {1, 0, 2, 0, 1, 0}, {0, 1, 4, 2, 0, 1}, {0, 2, 4, 2, 0, 2},
            {3, 0, 0, 1, 3, 0}, {0, 1, 3, 0, 3, 0}, {2, 1, 4, 1, 2, 1}, {4, 2, 2, 2, 2, 2}, {0, 2, 4, 1, 4, 1}};
        for (int[] p : pairs) {
            TownsUnderSail t = calm(5, 3);
            t.village(p[0], p[1], 0, 0, 0);
            t.village(p[2], p[3], 0, 0, 0);
            Due.is("how many", t.market(0, 0), 1);
            Due.is("x of the first", t.market(0, 1), p[4]);
            Due.is("y of the first", t.market(0, 2), p[5]);
        }
        TownsUnderSail t = calm(5, 5);
        t.village(0, 0, 0, 0, 0);
        t.village(2, 3, 0, 1, 0);
        t.village(4, 3, 0, 1, 0);
        t.village(2, 4, 0, 0, 0);
        t.village(3, 3, 0, 0, 0);
        t.wind(0, 2, 1, 0);
        t.wind(1, 6, 1, 0);
        Due.is("more are better than first", t.market(2, 0), 3);
        Due.is("x", t.market(2, 1), 3);
        Due.is("y", t.market(2, 2), 3);
    }

    private static void marketOfTen() {
        TownsUnderSail t = calm(12, 12);
        for (int v = 0; v < 10; v++) {
            t.village(v, 0, 0, 3, 2);
        }
        t.wind(0, 2, 3, 0);
        t.wind(1, 2, 3, 0);
        Due.is("all ten", t.market(2, 0), 10);
        Due.is("x", t.market(2, 1), 11);
        Due.is("y", t.market(2, 2), 0);
    }

    /** "ODDS; NONE if one can't be." */
    private static void askOdds() {
        TownsUnderSail t = Whole.small();
        int[] nobody = {-1, 3, 9, 10, MIN, MAX};
        for (int n : nobody) {
            Due.is("odds(" + n + ", 0, 0, 0)", t.odds(n, 0, 0, 0), -1);
        }
        int[][] out = {{-1, 0}, {0, -1}, {5, 0}, {0, 4}, {MIN, 0}, {0, MIN}, {MAX, 0}, {0, MAX}};
        for (int[] o : out) {
            Due.is("odds(0, " + o[0] + ", " + o[1] + ", 1)", t.odds(0, o[0], o[1], 1), -1);
        }
        int[] bad = {-1, 13, 14, MIN, MAX};
        for (int b : bad) {
            Due.is("odds(0, 0, 0, " + b + ")", t.odds(0, 0, 0, b), -1);
        }
        Due.is("there behind 0 hours", t.odds(1, t.of(1, 0), t.of(1, 1), 0), 1);
        Due.is("not elsewhere", t.odds(1, (t.of(1, 0) + 1) % 5, t.of(1, 1), 0), 0);
    }

    /** "behind n HOURS (0 .. 12) .. of 10 to the n". */
    private static void oddsHours() {
        TownsUnderSail t = calm(3, 3);
        t.village(1, 1, 0, 1, 0);
        long all = 1;
        for (int n = 0; n <= 12; n++) {
            Due.is("it can stay for " + n, t.odds(0, 1, 1, n), all);
            all *= 10;
        }
        Due.is("13", t.odds(0, 1, 1, 13), -1);
        TownsUnderSail u = calm(3, 3);
        u.village(1, 1, 0, 1, 0);
        u.wind(11, 2, 1, 9);
        Due.is("not within 11", u.odds(0, 2, 1, 11), 0);
        Due.is("within 12", u.odds(0, 2, 1, 12), 100000000000L);
        Due.is("shifted within 12", u.odds(0, 2, 2, 12), 900000000000L);
        TownsUnderSail s = calm(3, 3);
        s.village(1, 1, 0, 1, 0);
        for (int h = 0; h < 12; h++) {
            s.wind(h, 2, 1, 1);
        }
        Due.is("one of twelve shifts", s.odds(0, 1, 2, 12), 0);
        Due.is("aslant by one shift of twelve", s.odds(0, 2, 2, 12), 1000000000000L - 282429536481L);
        TownsUnderSail day = calm(3, 3);
        day.village(1, 1, 0, 1, 0);
        day.hours(23);
        day.wind(0, 2, 1, 3);
        Due.is("the day ends", day.odds(0, 2, 1, 1), 0);
        Due.is("and begins anew", day.odds(0, 2, 1, 2), 70);
    }

    /** Each SHIFT from 0 (none) to 10 (all). */
    private static void oddsOfShift() {
        for (int way = 0; way < 8; way++) {
            for (int shift = 0; shift <= 10; shift++) {
                TownsUnderSail t = calm(3, 3);
                t.village(1, 1, 0, 1, 0);
                t.wind(0, way, 1, shift);
                int next = (way + 1) % 8;
                Due.is("not shifted " + way + " " + shift, t.odds(0, 1 + DX[way], 1 + DY[way], 1), 10 - shift);
                Due.is("shifted " + way + " " + shift, t.odds(0, 1 + DX[next], 1 + DY[next], 1), shift);
                Due.is("stays", t.odds(0, 1, 1, 1), 10);
            }
        }
        for (int way = 0; way < 8; way++) {
            TownsUnderSail t = calm(3, 3);
            t.village(1, 1, 0, 1, 1);
            t.wind(0, way, 1, 3);
            int next = (way + 1) % 8;
            Due.is("a church by " + way, t.odds(0, 1 + DX[way], 1 + DY[way], 1), way % 2 == 0 ? 7 : 0);
            Due.is("a church by " + next, t.odds(0, 1 + DX[next], 1 + DY[next], 1), next % 2 == 0 ? 3 : 0);
        }
    }

    /** "if in each HOUR one sees whether the WIND shifted ahead of saying sail or stay: the greatest". */
    private static void oddsSeenAhead() {
        TownsUnderSail t = calm(12, 12);
        t.village(5, 5, 0, 1, 0);
        t.wind(0, 2, 1, 4);
        t.wind(1, 2, 1, 4);
        Due.is("once not shifted in two", t.odds(0, 6, 5, 2), 84);
        Due.is("once shifted in two", t.odds(0, 6, 6, 2), 64);
        Due.is("one of each", t.odds(0, 7, 6, 2), 48);
        Due.is("twice shifted", t.odds(0, 7, 7, 2), 16);
        Due.is("twice not shifted", t.odds(0, 7, 5, 2), 36);
        TownsUnderSail u = calm(3, 3);
        u.village(0, 1, 0, 1, 0);
        u.wind(0, 1, 1, 5);
        u.wind(1, 2, 1, 5);
        Due.is("by two ways", u.odds(0, 1, 1, 2), 75);
    }

    private static void oddsStuck() {
        TownsUnderSail t = sunk();
        long all = 1;
        for (int n = 0; n <= 5; n++) {
            Due.is("stuck for " + n, t.odds(0, 1, 0, n), all);
            Due.is("not elsewhere", t.odds(0, 2, 0, n), 0);
            all *= 10;
        }
        Due.is("dug out", t.odds(0, 2, 0, 6), all);
        t.wind(5, 2, 1, 7);
        Due.is("what shifts while it is stuck", t.odds(0, 1, 0, 5), 100000);
        t.wind(6, 2, 1, 7);
        Due.is("dug out, not shifted", t.odds(0, 2, 0, 6), 300000);
        Due.is("dug out, shifted", t.odds(0, 2, 1, 6), 700000);
    }

    /** "SEEN: true; false if one can't be." */
    private static void askSeen() {
        int[][] bad = {{-1, 0, 0, 0}, {3, 0, 0, 0}, {10, 0, 0, 0}, {MIN, 0, 0, 0}, {MAX, 0, 0, 0}, {1, -1, 0, 0}, {1, 5, 0, 0},
            {1, 0, -1, 0}, {1, 0, 4, 0}, {1, MIN, 0, 0}, {1, 0, MAX, 0}, {1, 0, 0, -1}, {1, 0, 0, 10000}, {1, 0, 0, MIN},
            {1, 0, 0, MAX}, {0, 0, 0, -1}, {0, 0, 0, 10000}};
        for (int[] b : bad) {
            Whole.refused("seen(" + b[0] + ", " + b[1] + ", " + b[2] + ", " + b[3] + ")", 0,
                t -> yes(t.seen(b[0], b[1], b[2], b[3])));
        }
        int[][] good = {{0, 0, 0, 0}, {2, 4, 3, 9999}, {1, 4, 0, 9998}, {0, 0, 3, 1}};
        for (int[] g : good) {
            TownsUnderSail t = Whole.small();
            Due.is("seen", t.seen(g[0], g[1], g[2], g[3]), true);
            Due.is("there", t.places(g[0], 0, 0), 100 * g[2] + g[1]);
            Due.is("there alone", t.places(g[0], 0, -1), 1);
            Due.is("another one as before", t.places((g[0] + 1) % 3, 0, -1), g[0] == 0 ? 1 : -1);
        }
    }

    /** "the latest told for it; none at first". */
    private static void seenLatest() {
        TownsUnderSail t = calm(5, 4);
        for (int v = 0; v < 10; v++) {
            t.village(v % 5, v / 5, 0, 1, 0);
            Due.is("none at first", t.places(v, 0, -1), -1);
        }
        t.wind(7, 2, 1, 0);
        t.seen(9, 1, 1, 7);
        Due.is("seen", t.places(9, 1, -1), 2);
        Due.is("nobody else", t.places(8, 0, -1), -1);
        t.seen(9, 2, 3, 6);
        Due.is("the latest told, not the latest time", t.places(9, 0, 0), 302);
        Due.is("its time", t.places(9, 1, -1), 1);
        Due.is("its time", t.places(9, 2, -1), 2);
    }

    /** "how many (i NONE), or the i-th as 100 y + x. NONE if one can't be (not SEEN), or there is none such." */
    private static void askPlaces() {
        TownsUnderSail t = Whole.small();
        int[] nobody = {-1, 3, 9, 10, MIN, MAX};
        for (int n : nobody) {
            Due.is("places(" + n + ", 0, -1)", t.places(n, 0, -1), -1);
        }
        Due.is("not seen", t.places(0, 0, -1), -1);
        Due.is("not seen", t.places(2, 0, 0), -1);
        int[] bad = {-1, 25, 26, MIN, MAX};
        for (int b : bad) {
            Due.is("places(1, " + b + ", -1)", t.places(1, b, -1), -1);
            Due.is("places(1, " + b + ", 0)", t.places(1, b, 0), -1);
        }
        for (int n = 0; n <= 24; n += 8) {
            int count = t.places(1, n, -1);
            Due.is("some", count >= 1, true);
            Due.is("the first", t.places(1, n, 0) >= 0, true);
            Due.is("the last", t.places(1, n, count - 1) >= 0, true);
            int[] none = {count, count + 1, -2, -3, MIN, MAX};
            for (int i : none) {
                Due.is("places(1, " + n + ", " + i + ")", t.places(1, n, i), -1);
            }
        }
    }

    /** "All CELLS at which it can be n HOURS (0 .. 24) behind that". */
    private static void placesHours() {
        for (int hour = 0; hour < 24; hour++) {
            TownsUnderSail t = calm(5, 4);
            t.village(0, 0, 0, 1, 0);
            t.wind(hour, 2, 1, 0);
            t.seen(0, 1, 2, 48);
            Due.is("one hour too few", t.places(0, hour, -1), 1);
            Due.is("within " + (hour + 1), t.places(0, hour + 1, -1), 2);
            Due.is("within 24", t.places(0, 24, 1), 202);
            t.seen(0, 1, 2, 9984 + hour > 9999 ? 9960 + hour : 9984 + hour);
            Due.is("at once", t.places(0, 1, -1), 2);
            Due.is("once in 24 hours", t.places(0, 24, -1), 2);
        }
    }

    /** "whatever shifted (where SHIFT is 0 none, where it is 10 all), whatever was said". */
    private static void placesOfShift() {
        for (int way = 0; way < 8; way++) {
            for (int shift = 0; shift <= 10; shift++) {
                TownsUnderSail t = calm(3, 3);
                t.village(0, 0, 0, 1, 0);
                t.wind(5, way, 1, shift);
                t.seen(0, 1, 1, 5);
                int straight = 100 * (1 + DY[way]) + 1 + DX[way];
                int next = (way + 1) % 8;
                int shifted = 100 * (1 + DY[next]) + 1 + DX[next];
                boolean both = shift > 0 && shift < 10;
                Due.is("how many by " + way + " " + shift, t.places(0, 1, -1), both ? 3 : 2);
                Due.is("straight by " + way + " " + shift, holds(t, straight), shift < 10);
                Due.is("shifted by " + way + " " + shift, holds(t, shifted), shift > 0);
                Due.is("it can have stayed", holds(t, 101), true);
            }
        }
    }

    /** One way or the other in an hour, not both. */
    private static void placesOfOneHour() {
        for (int way = 0; way < 8; way++) {
            for (int steps = 1; steps <= 2; steps++) {
                TownsUnderSail t = calm(12, 12);
                t.village(0, 0, 0, steps, 0);
                t.wind(5, way, 3, 5);
                t.seen(0, 5, 5, 5);
                Due.is("here or by one of two ways, " + way, t.places(0, 1, -1), 3);
                t.wind(6, way, 3, 5);
                Due.is("two hours, " + way, t.places(0, 2, -1), 6);
            }
        }
    }

    private static boolean holds(TownsUnderSail t, int place) {
        boolean holds = false;
        for (int i = 0; i < 3; i++) {
            holds |= t.places(0, 1, i) == place;
        }
        return holds;
    }

    /** "the i-th of them (y, then x)", of as many as the greatest plain has. */
    private static void placesInOrder() {
        TownsUnderSail t = calm(12, 12);
        t.village(0, 0, 0, 1, 0);
        for (int hour = 0; hour < 11; hour++) {
            t.wind(hour, 2, 1, 0);
            t.wind(hour + 11, 4, 1, 0);
        }
        t.seen(0, 0, 0, 0);
        Due.is("all cells", t.places(0, 22, -1), 144);
        for (int i = 0; i < 144; i++) {
            Due.is("place " + i, t.places(0, 24, i), 100 * (i / 12) + i % 12);
        }
        Due.is("no more", t.places(0, 24, 144), -1);
        Due.is("all but a corner", t.places(0, 21, -1), 132);
    }

    /** "(Stuck or not is not asked.)" */
    private static void placesStuck() {
        TownsUnderSail t = sunk();
        t.seen(0, 1, 0, 1);
        Due.is("it may have gone at once", t.places(0, 1, -1), 2);
        Due.is("to here", t.places(0, 1, 1), 2);
        Due.is("seen where it can't come to", t.places(0, 1, 0), 1);
        t.seen(0, 0, 0, 1);
        Due.is("but it can't come there", t.places(0, 24, -1), 1);
    }

    /** What is only thought changes nothing that can be asked. */
    private static void nothingIsDone() {
        Whole.refused("soon", 0, t -> t.soon(0, t.of(0, 0), t.of(0, 1)));
        Whole.refused("meeting", 1, t -> t.meeting(0, 1) >= -1 ? 1 : 0);
        Whole.refused("market", 1, t -> t.market(24, 0) > 0 ? 1 : 0);
        Whole.refused("odds", 1, t -> t.odds(0, 1, 1, 12) >= 0 ? 1 : 0);
        Whole.refused("places", 1, t -> t.places(1, 24, -1) > 0 ? 1 : 0);
        Whole.refused("look", 4, t -> t.look(7));
        Whole.refused("at", 1, t -> t.at(0, 0, 1));
    }
}
