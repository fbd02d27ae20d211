/** Promises 10 to 13: the tape, orders told as texts, faults. */
public final class OrdersTest {
    private OrdersTest() {
    }

    public static void main(String[] args) {
        tape();
        ends();
        texts();
        faults();
        meaning();
        Due.finish();
    }

    private static void tape() {
        TownsUnderSail t = new TownsUnderSail();
        Due.is("feed", t.feed(0, 0, 0, 0, 0), 20);
        for (int i = 2; i <= 20; i++) {
            Due.is("feed", t.feed(1, 2, 3, 4, 5), 20 * i);
        }
        Due.is("beyond 400", t.feed(0, 0, 0, 0, 0), -1);
        Due.is("it still has 400", t.end(400), true);
        Due.is("end(381)", t.end(381), true);
        Due.is("beyond 400", t.feed(0, 0, 0, 0, 0), -1);
        Due.is("end(380)", t.end(380), true);
        Due.is("just 400", t.feed(0, 0, 0, 0, 0), 400);
        Due.is("the first bytes are faulty", t.text(0), -1);
        Due.is("empty then", t.end(1), false);
        Due.is("the highest byte first", t.feed(0x6675726c, 0x3b736169, 0x6c3b2020, 0x0a0a0a0a, 0x20202020), 20);
        Due.is("furl;sail;", t.text(1), 2);
    }

    private static void ends() {
        TownsUnderSail t = new TownsUnderSail();
        Due.is("end(0)", t.end(0), true);
        Due.is("end(-1)", t.end(-1), false);
        Due.is("end(1)", t.end(1), false);
        Due.feed(t, "sail;furl;");
        Due.is("end(11)", t.end(11), false);
        Due.is("end(min)", t.end(Integer.MIN_VALUE), false);
        Due.is("end(10)", t.end(10), true);
        Due.is("end(5)", t.end(5), true);
        Due.is("end(6)", t.end(6), false);
        Due.is("text", t.text(0), 1);
        Due.feed(t, "furl;sail when x<12345;");
        t.end(18);
        Due.is("cut within a number", t.text(0), -1);
        Due.is("its end", t.fault(1), 18);
        Due.feed(t, "furl;sailing");
        t.end(9);
        Due.is("cut within a word", t.text(0), -1);
        Due.is("its end", t.fault(1), 9);
    }

    private static void texts() {
        TownsUnderSail t = new TownsUnderSail();
        Due.is("empty", t.text(0), 0);
        Due.is("blanks", Due.tell(t, 0, " \n  \n"), 0);
        Due.is("two", Due.tell(t, 0, "sail;furl;"), 2);
        Due.is("a fault", Due.tell(t, 0, "sail"), -1);
        Due.is("it stays as it was", t.look(10), 2);
        Due.is("fault", t.fault(0), 1);
        Due.feed(t, "sail");
        Due.is("no such kind", t.text(4), -1);
        Due.is("fault tells 0", t.fault(0), 0);
        Due.is("its place", t.fault(1), -1);
        Due.is("the tape is empty then too", t.end(1), false);
        Due.is("no such kind", t.text(-1), -1);
        Due.is("16 lines", Due.tell(t, 3, "sail;".repeat(16)), 16);
        Due.is("look(13)", t.look(13), 16);
        Due.is("told anew, empty", t.text(3), 0);
        Due.is("look(13)", t.look(13), 0);
        Due.is("all words", Due.tell(t, 1, "sail when x+y-way*force<hour/9999 and thirst=crust or near>tied and not(village<1);"), 1);
        Due.is("blanks needless", Due.tell(t, 1, "furl when 1<2and 3>x;"), 1);
        Due.is("400 bytes", Due.tell(t, 1, "sail when x<" + "1+".repeat(193) + "1;"), 1);
        Due.is("all 400 a fault", Due.tell(t, 1, "sail when x<" + "1+".repeat(194)), -1);
        Due.is("at its end", t.fault(1), 400);
        Due.is("fault(2)", t.fault(2), -1);
        Due.is("fault(-1)", t.fault(-1), -1);
    }

    private static void fault(String text, int what, int place) {
        TownsUnderSail t = new TownsUnderSail();
        Due.is("text of [" + text + "]", Due.tell(t, 0, text), what == 0 ? t.look(10) : -1);
        Due.is("fault of [" + text + "]", t.fault(0), what);
        Due.is("place of [" + text + "]", t.fault(1), place);
    }

    private static void faults() {
        fault("sail;", 0, -1);
        fault(";", 1, 0);
        fault("  when", 1, 2);
        fault("sail sail;", 1, 5);
        fault("sail  \n ", 1, 8);
        fault("sails;", 1, 0);
        fault("sailwhen x=1;", 1, 0);
        fault("Sail;", 1, 0);
        fault("sailX;", 1, 0);
        fault("sail\t;", 1, 4);
        fault("sail\r;", 1, 4);
        fault("sail;\u00e9", 1, 5);
        fault("sail;\u0000", 1, 5);
        fault("sail when;", 1, 9);
        fault("sail when x;", 1, 11);
        fault("sail when x<;", 1, 12);
        fault("sail when x<1", 1, 13);
        fault("sail when x<1<2;", 1, 13);
        fault("sail when x<1 sail;", 1, 14);
        fault("sail when (x)<1;", 1, 12);
        fault("sail when (x<1;", 1, 14);
        fault("sail when x<1);", 1, 13);
        fault("sail when x<(1);", 1, 12);
        fault("sail when x<not 1=1;", 1, 12);
        fault("sail when -1<x;", 1, 10);
        fault("sail when 12345<x;", 1, 10);
        fault("sail when 00000<x;", 1, 10);
        fault("sail when 0000<x;", 0, -1);
        fault("sail when 12x<x;", 1, 12);
        fault("sail when x1<x;", 1, 11);
        fault("sail when x , y;", 1, 12);
        fault("sail when x/0<1;", 2, 12);
        fault("sail when x/0000<1;", 2, 12);
        fault("sail when x/00000<1;", 1, 12);
        fault("sail when x/ 00 ,", 2, 13);
        fault("sail when x/10<1;", 0, -1);
        fault("sail when x/y<1;", 1, 12);
        fault("sail when x/", 1, 12);
        fault("sail when x*0<1;", 0, -1);
        fault("sail when x/1/0<1;", 2, 14);
        fault("sail when x<1 and;", 1, 17);
        fault("sail when or;", 1, 10);
        fault("sail when not;", 1, 13);
        fault("sail when x<1 not y<1;", 1, 14);
        fault("sail when " + "(".repeat(8) + "1=1" + ")".repeat(8) + ";", 0, -1);
        fault("sail when " + "(".repeat(9) + "1=1" + ")".repeat(9) + ";", 3, 18);
        fault("sail when " + "not ".repeat(8) + "1=1;", 0, -1);
        fault("sail when " + "not ".repeat(9) + "1=1;", 3, 42);
        fault("sail when not(not(not(not(1=1)and not(1=1))));", 0, -1);
        fault("sail when not(not(not(not(not 1=1))));", 3, 26);
        fault("sail when not(not(not(not(1=1)and 1=1)and not not 1=1));", 0, -1);
        fault("sail when not(not(not(not 1=1 and ((1=1)))));", 0, -1);
        fault("sail when not(not(not(not 1=1 and (((1=1))))));", 3, 36);
        fault("sail when ((((((((1=1))))))))or((((((((1=1))))))));", 0, -1);
        fault("furl;".repeat(16) + " sail;", 3, 81);
        fault("furl;".repeat(16) + " x;", 1, 81);
        fault("furl;".repeat(16) + " \n", 0, -1);
        fault("furl;".repeat(16) + "sail", 3, 80);
    }

    /** A village at (2, 3) of 8 by 8 goes by way 2 in the first hour if its orders say so. */
    private static void goes(String claim, boolean want) {
        TownsUnderSail t = new TownsUnderSail();
        t.village(5, 5, 7, 1, 1);
        t.village(1, 2, 7, 1, 1);
        t.village(2, 3, 7, 2, 0);
        t.village(4, 3, 7, 1, 1);
        t.rope(2, 3, 5);
        t.rope(0, 2, 5);
        t.rope(0, 1, 5);
        t.crust(2, 3, 33);
        t.wind(3, 2, 2, 0);
        t.hours(3);
        Due.is("lines of " + claim, Due.tell(t, 0, "sail when " + claim + ";") > 0, true);
        Due.is(claim, t.hours(1) > 0, want);
    }

    private static void meaning() {
        goes("x=2", true);
        goes("y=3", true);
        goes("way=2", true);
        goes("force=2", true);
        goes("hour=3", true);
        goes("thirst=3", true);
        goes("crust=33", true);
        goes("near=1", true);
        goes("tied=2", true);
        goes("village=2", true);
        goes("x<2", false);
        goes("x>2", false);
        goes("x<3 and y>2", true);
        goes("x<2 or y=3 and x=2", true);
        goes("x=2 or y=3 and x=3", true);
        goes("(x=2 or y=3) and x=3", false);
        goes("not x=2 or y=3", true);
        goes("not (x=2 or y=3)", false);
        goes("not not x=2", true);
        goes("not x=3 and not y=2", true);
        goes("1+2*3=7", true);
        goes("10-2-3=5", true);
        goes("7/2*2=6", true);
        goes("7*2/4=3", true);
        goes("0-7/2=0-3", true);
        goes("x-9*1<0", true);
        goes("9999*9999*9999*9999<0", 9999 * 9999 * 9999 * 9999 < 0);
        goes("x-9=0-7", true);
        // an odd number below 0: half of it, taken twice, is one more if / goes towards 0
        int odd = 9999 * 9999 * 23;
        goes("9999*9999*23<0", odd < 0);
        goes("9999*9999*23/2*2-9999*9999*23=1", odd < 0);
        goes("9999*9999*23/2*2-9999*9999*23+1=0", odd > 0);
        goes("x=2 and y=4 or way=2 and force=2", true);
        goes("x=2 and (y=4 or way=2) and force=2", true);
        goes("x=2 and (y=4 or way=3) and force=2", false);
        String deep = "x=9 or x=2 and(".repeat(8);
        goes(deep + "x=9 or x=2 and 1+2*3=1+2*3" + ")".repeat(8), true);
        goes(deep + "x=9 or x=2 and 1+2*3=1+2*4" + ")".repeat(8), false);
        lines("furl when x=3; sail when x=2; furl;", true);
        lines("furl when x=2; sail;", false);
        lines("sail when x=3; furl; sail;", false);
        lines("sail; furl;", true);
        lines("sail when x=3;", false);
        lines("", false);
    }

    private static void lines(String text, boolean want) {
        TownsUnderSail t = new TownsUnderSail();
        t.village(2, 3, 7, 1, 0);
        Due.tell(t, 0, text);
        Due.is("sails by [" + text + "]", t.hours(1) > 0, want);
    }
}
