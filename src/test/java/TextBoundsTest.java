/** The bounds that promises 10 to 13 and the terms of ORDERS, TOKENS and FAULTS name: just inside and just outside. */
public final class TextBoundsTest {
    private static final int MIN = Integer.MIN_VALUE;
    private static final int MAX = Integer.MAX_VALUE;

    private TextBoundsTest() {
    }

    public static void main(String[] args) {
        fullTape();
        feedRefused();
        bytesInOrder();
        ends();
        noSuchKind();
        emptyTexts();
        manyTexts();
        faultyTexts();
        faultOfTheLatest();
        lines();
        open();
        openAndClosed();
        digits();
        partsByZero();
        everyByte();
        words();
        theEnd();
        firstFault();
        wrapping();
        towardsZero();
        binding();
        Due.finish();
    }

    private static long yes(boolean b) {
        return b ? 1 : 0;
    }

    private static void fault(String text, int what, int place) {
        TownsUnderSail t = new TownsUnderSail();
        int lines = 0;
        for (int i = 0; i < text.length() && what == 0; i++) {
            lines += text.charAt(i) == ';' ? 1 : 0;
        }
        Due.is("text of [" + text + "]", Due.tell(t, 0, text), what == 0 ? lines : -1);
        Due.is("fault of [" + text + "]", t.fault(0), what);
        Due.is("place of [" + text + "]", t.fault(1), place);
        Due.is("lines of [" + text + "]", t.look(10), lines);
    }

    private static void fine(String text) {
        fault(text, 0, -1);
    }

    /** "NONE, and nothing comes, if there would be more than 400." */
    private static void fullTape() {
        for (int had = 361; had <= 400; had++) {
            TownsUnderSail t = new TownsUnderSail();
            for (int i = 1; i <= 20; i++) {
                Due.is("feed", t.feed(0x20202020, 0x0a0a0a0a, 0, 0x20202020, 0x20202020), 20 * i);
            }
            Due.is("end(" + had + ")", t.end(had), true);
            boolean fits = had <= 380;
            Due.is("feed behind " + had, t.feed(0, 0, 0, 0, 0), fits ? had + 20 : -1);
            int has = fits ? had + 20 : had;
            Due.is("not one more", t.end(has + 1), false);
            Due.is("just so many", t.end(has), true);
        }
    }

    private static void feedRefused() {
        int[] lengths = {381, 390, 399, 400};
        for (int length : lengths) {
            Whole.refused("feed behind " + length, -1, t -> fill(t, length), t -> t.feed(0x7361696c, 0x3b3b3b3b, 1, 2, 3));
        }
        TownsUnderSail t = new TownsUnderSail();
        fill(t, 400);
        Due.is("a full tape of blanks", t.text(2), 0);
        Due.is("no fault", t.fault(0), 0);
        Due.is("a full tape of lines", Due.tell(t, 2, "furl;" + " ".repeat(394) + "x"), -1);
        Due.is("all 400 bytes are read", t.fault(1), 399);
        Due.is("a tape of 400 tokens", Due.tell(t, 2, ";".repeat(400)), -1);
        Due.is("the first can't stand there", t.fault(1), 0);
        Due.is("a tape of 399 tokens", Due.tell(t, 2, "(".repeat(399)), -1);
        Due.is("the first can't stand there", t.fault(1), 0);
    }

    private static void fill(TownsUnderSail t, int length) {
        t.end(0);
        for (int i = 0; i < 20; i++) {
            t.feed(0x20202020, 0x20202020, 0x20202020, 0x20202020, 0x20202020);
        }
        t.end(length);
    }

    /** "Twenty bytes come behind the TAPE, of each number the highest first". */
    private static void bytesInOrder() {
        String text = "furl;sail;furl;sail;";
        for (int cut = 0; cut <= 20; cut++) {
            TownsUnderSail t = new TownsUnderSail();
            Due.feed(t, text);
            Due.is("end(" + cut + ")", t.end(cut), true);
            Due.is("text of " + cut, t.text(1), cut % 5 == 0 ? cut / 5 : -1);
            Due.is("fault of " + cut, t.fault(1), cut % 5 == 0 ? -1 : cut % 5 == 4 ? cut : cut - cut % 5);
        }
        TownsUnderSail t = new TownsUnderSail();
        Due.feed(t, "furl;sailing");
        t.end(9);
        Due.is("a word's end is cut off", t.text(0), -1);
        Due.is("what was told of it stands", t.fault(1), 9);
        Due.feed(t, "sail when x=12345;");
        t.end(16);
        Due.is("a number's end is cut off", t.text(0), -1);
        Due.is("what was told of it stands", t.fault(1), 16);
        Due.is("feed", t.feed(0x66, 0x75000000, 0, 0, 0), 20);
        Due.is("a byte of 0 is none", t.text(0), -1);
        Due.is("the lowest comes last", t.fault(1), 0);
        Due.is("feed", t.feed(0x20202066, 0x75726c3b, 0x20202020, 0x20202020, 0x2020203b), 20);
        Due.is("text", t.text(0), -1);
        Due.is("the last byte of all is the 20th", t.fault(1), 19);
        Due.is("feed", t.feed(0x202020e6, 0x80ff7f3b, -1, MIN, MAX), 20);
        Due.is("end(3)", t.end(3), true);
        Due.is("feed", t.feed(0x7361696c, 0x3b202020, 0x20202020, 0x20202020, 0x2020206c), 23);
        Due.is("end(22)", t.end(22), true);
        Due.is("behind what it has", t.text(0), 1);
    }

    /** "The TAPE has its first n bytes alone: true; false, changing nothing, if it has not so many, or n is below 0." */
    private static void ends() {
        int[] bad = {6, 7, 20, 400, 401, -1, -5, MIN, MAX};
        for (int b : bad) {
            Whole.refused("end(" + b + ") of five", 0, t -> yes(t.end(b)));
        }
        for (int n = 0; n <= 5; n++) {
            TownsUnderSail t = Whole.small();
            Due.is("end(" + n + ")", t.end(n), true);
            Due.is("not one more", t.end(n + 1), false);
            Due.is("the first alone", t.text(3), n == 5 ? 1 : n == 0 ? 0 : -1);
        }
        TownsUnderSail t = new TownsUnderSail();
        Due.is("end(0) of none", t.end(0), true);
        Due.is("end(1) of none", t.end(1), false);
        Due.is("end(-1) of none", t.end(-1), false);
        fill(t, 400);
        Due.is("end(401)", t.end(401), false);
        Due.is("end(400)", t.end(400), true);
    }

    /** "NONE: no such one (fault() tells 0)". */
    private static void noSuchKind() {
        int[] bad = {-1, 4, 5, MIN, MAX};
        for (int b : bad) {
            TownsUnderSail t = Whole.small();
            Due.is("a fault ahead of it", t.fault(0), 1);
            Due.is("text(" + b + ")", t.text(b), -1);
            Due.is("fault() tells 0", t.fault(0), 0);
            Due.is("at no place", t.fault(1), -1);
            Due.is("orders 0 stay", t.look(10), 1);
            Due.is("orders 3 stay", t.look(13), 0);
            Due.is("a faulty text too", Due.tell(t, b, "sail 1"), -1);
            Due.is("fault() tells 0", t.fault(0), 0);
            Due.is("at no place", t.fault(1), -1);
        }
        for (int k = 0; k < 4; k++) {
            TownsUnderSail t = Whole.small();
            Due.is("text(" + k + ")", t.text(k), 1);
            Due.is("no fault", t.fault(0), 0);
            Due.is("at no place", t.fault(1), -1);
            Due.is("empty then", t.end(1), false);
        }
    }

    /** "a TEXT (empty at first)"; "The TAPE, empty then, is ORDERS of a KIND: how many lines." */
    private static void emptyTexts() {
        for (int k = 0; k < 4; k++) {
            TownsUnderSail t = Whole.small();
            t.end(0);
            Due.is("empty text(" + k + ")", t.text(k), 0);
            Due.is("no lines", t.look(10 + k), 0);
            Due.is("no fault", t.fault(0), 0);
            Due.is("at no place", t.fault(1), -1);
            Due.tell(t, k, "furl;sail;");
            Due.is("the tape is empty then: no lines", t.text(k), 0);
            Due.is("blanks alone", Due.tell(t, k, " \n \n\n  "), 0);
        }
        TownsUnderSail t = new TownsUnderSail();
        t.village(4, 4, 0, 1, 0);
        Due.is("none: furl", t.hours(1), 0);
        Due.tell(t, 0, "sail;");
        Due.is("sail", t.hours(1), 1);
        t.text(0);
        Due.is("none again: furl", t.hours(1), 0);
        for (int i = 0; i < 4; i++) {
            Due.tell(t, 0, "furl when x=9;sail;");
        }
        for (int i = 0; i < 4; i++) {
            Due.tell(t, 0, "furl when x=9;");
            Due.is("a line that is told no more", t.hours(1), 0);
        }
        for (int i = 0; i < 4; i++) {
            t.text(0);
            Due.is("none again: furl", t.hours(1), 0);
        }
    }

    /** Long texts told one behind the other, of one KIND and of all: each is told as if it were the first. */
    private static void manyTexts() {
        TownsUnderSail t = new TownsUnderSail();
        t.village(4, 7, 0, 1, 0);
        String sum = "+1".repeat(90);
        for (int i = 0; i < 12; i++) {
            Due.is("a long text", Due.tell(t, i % 4, "furl when x=4" + sum + ";sail when x=" + (i % 2) + sum + ";"), 2);
            Due.is("lines", t.look(10 + i % 4), 2);
            Due.is("a long text", Due.tell(t, 0, "sail when x=" + (i % 2 == 0 ? 4 : 5) + "*1".repeat(90) + ";"), 1);
            Due.is("the latest is so", t.hours(1), i % 2 == 0 ? 1 : 0);
        }
        Due.is("it went", t.of(0, 1), 1);
    }

    /** "or a FAULT (it stays as it was)": the orders go on as they were, the tape is empty. */
    private static void faultyTexts() {
        String[] texts = {"sail", "furl;furl;furl;x", "furl when x/0=1;", "sail;".repeat(17), "\t"};
        for (String text : texts) {
            for (int k = 0; k < 3; k++) {
                TownsUnderSail t = Whole.small();
                TownsUnderSail twin = Whole.small();
                Due.is("a fault", Due.tell(t, k, text), -1);
                Due.is("empty then", t.end(1), false);
                Due.is("lines", t.look(10 + k), twin.look(10 + k));
                Due.is("what can be undone", t.look(7), 4);
                Due.tell(twin, k, text);
                Due.is("all goes on alike", (t.hours(9) + Whole.of(t)).equals(twin.hours(9) + Whole.of(twin)), true);
            }
        }
        TownsUnderSail t = new TownsUnderSail();
        t.village(4, 4, 0, 1, 0);
        Due.tell(t, 0, "sail when y=4;");
        Due.tell(t, 0, "furl;furl when x=4 or;");
        Due.is("lines", t.look(10), 1);
        Due.is("as it was: sail", t.hours(1), 1);
        Due.is("as it was: furl", t.hours(1), 0);
    }

    /** "Of the latest text(): what 0 the FAULT (0 without one), 1 its place (NONE). NONE for another what." */
    private static void faultOfTheLatest() {
        TownsUnderSail t = new TownsUnderSail();
        int[] bad = {-1, 2, 3, MIN, MAX};
        for (int b : bad) {
            Due.is("fault(" + b + ") at first", t.fault(b), -1);
        }
        Due.is("none at first", t.fault(0), 0);
        Due.is("nowhere at first", t.fault(1), -1);
        Due.tell(t, 0, "sail when x/0=1;");
        for (int b : bad) {
            Due.is("fault(" + b + ")", t.fault(b), -1);
        }
        Due.is("fault(0)", t.fault(0), 2);
        Due.is("fault(1)", t.fault(1), 12);
        Due.feed(t, "x");
        t.end(0);
        t.hours(1);
        t.undo();
        t.image(true);
        t.image(false);
        Due.is("it stays", t.fault(0), 2);
        Due.is("so does its place", t.fault(1), 12);
        Due.tell(t, 1, ";");
        Due.is("the latest", t.fault(0), 1);
        Due.is("its place 0", t.fault(1), 0);
        Due.tell(t, 1, "furl;");
        Due.is("without one", t.fault(0), 0);
        Due.is("at no place", t.fault(1), -1);
    }

    /** "3 (at its KEYWORD) the 17th line". */
    private static void lines() {
        fine("sail;".repeat(15));
        fine("sail;".repeat(16));
        fine("furl;".repeat(16) + "\n \n");
        fault("sail;".repeat(17), 3, 80);
        fault("sail;".repeat(16) + "furl;", 3, 80);
        fault("sail;".repeat(16) + " \n furl;", 3, 83);
        fault("sail;".repeat(16) + "furl", 3, 80);
        fault("sail;".repeat(16) + "furl when x/0=1;", 3, 80);
        fault("sail;".repeat(20), 3, 80);
        fault("sail;".repeat(16) + ";", 1, 80);
        fault("sail;".repeat(16) + "when", 1, 80);
        fault("sail;".repeat(16) + "1", 1, 80);
        fault("sail;".repeat(16) + "sails;", 1, 80);
        fault("sail;".repeat(15) + "sail sail;", 1, 80);
        fault("sail;".repeat(15) + "sail", 1, 79);
        fine("sail when x=1;".repeat(16));
        fault("sail when x=1;".repeat(17), 3, 224);
        TownsUnderSail t = new TownsUnderSail();
        t.village(4, 4, 0, 1, 0);
        Due.tell(t, 0, "furl when y<4;" + "furl when x=1;".repeat(14) + "sail when y=4;");
        Due.is("the 16th line tells", t.hours(2), 1);
    }

    /** "(at it) the 9th ( or not that is open". */
    private static void open() {
        for (int brackets = 0; brackets <= 10; brackets++) {
            for (int nots = 0; nots + brackets <= 10; nots++) {
                int all = nots + brackets;
                String mixed = "not ".repeat(nots) + "(".repeat(brackets) + "x=1" + ")".repeat(brackets);
                int ninth = nots >= 9 ? 10 + 4 * 8 : 10 + 4 * nots + 8 - nots;
                fault("sail when " + mixed + ";", all > 8 ? 3 : 0, all > 8 ? ninth : -1);
                String inside = "(".repeat(brackets) + "not ".repeat(nots) + "x=1" + ")".repeat(brackets);
                ninth = brackets >= 9 ? 10 + 8 : 10 + brackets + 4 * (8 - brackets);
                fault("sail when " + inside + ";", all > 8 ? 3 : 0, all > 8 ? ninth : -1);
            }
        }
        fault("sail when " + "(".repeat(9), 3, 18);
        fault("sail when " + "(".repeat(8), 1, 18);
        fault("sail when " + "(".repeat(8) + ";", 1, 18);
        fault("sail when " + "(".repeat(8) + "x(", 1, 19);
        fault("sail when " + "(".repeat(8) + "x=(", 1, 20);
        fault("sail when " + "(".repeat(8) + "x=not", 1, 20);
        fault("sail when " + "(".repeat(8) + "x not", 1, 20);
        fault("sail when " + "(".repeat(8) + "x=1 (", 1, 22);
        fault("sail when " + "(".repeat(8) + "x=1 and(", 3, 25);
        fault("sail when " + "(".repeat(8) + "x=1 or not", 3, 25);
    }

    /** What is closed is not open any more; a not is open as far as its C. */
    private static void openAndClosed() {
        fine("sail when " + "(x=1)or ".repeat(12) + "(x=1);");
        fine("sail when " + "not x=1 and ".repeat(12) + "not x=1;");
        fine("sail when ((((((((x=1))))))))and((((((((x=1))))))));");
        fine("sail when (((((((x=1)and(x=1)or(x=1))))))) or not not not not not not not not x=1;");
        fine("sail when (((((((not x=1 and not x=1)))))));");
        fault("sail when (((((((not x=1 and not not x=1)))))));", 3, 33);
        fine("sail when not(not(not(not(x=1))));");
        fault("sail when not(not(not(not((x=1)))));", 3, 26);
        fault("sail when not(not(not(not(x=1)and(((x=1))))));", 3, 35);
        fine("sail when not(not(not(not(x=1)and((x=1)))));");
        fault("sail when x=1);", 1, 13);
        fault("sail when (x=1));", 1, 15);
        fault("sail when ((x=1);", 1, 16);
        fault("sail when ();", 1, 11);
        fault("sail when x;", 1, 11);
        fault("sail when x+1 and x=1;", 1, 14);
        fault("sail when (x)<1;", 1, 12);
        fault("sail when 1=1=1;", 1, 13);
        fault("sail when x=1 y=1;", 1, 14);
        fault("sail when x=1 when x=1;", 1, 14);
        fault("sail when x=+1;", 1, 12);
        fault("sail when -x=1;", 1, 10);
        fault("sail when x=1+;", 1, 14);
        fault("sail when x=1*;", 1, 14);
        fault("sail when x=1 and;", 1, 17);
        fault("sail when x=1 or;", 1, 16);
        fault("sail when not ;", 1, 14);
    }

    /** "digits as many as stand together NUMBERS of 1 to 4 digits or none". */
    private static void digits() {
        fine("sail when 0=9;");
        fine("sail when 12=34;");
        fine("sail when 123=999;");
        fine("sail when 0000=9999;");
        fine("sail when 0001=1000;");
        fault("sail when 00000=1;", 1, 10);
        fault("sail when 10000=1;", 1, 10);
        fault("sail when 1=99999;", 1, 12);
        fault("sail when 1=123456789012345678901234567890;", 1, 12);
        fault("sail when 1 2=1;", 1, 12);
        fault("sail when 1\n2=1;", 1, 12);
        fine("sail when 1=1or 2=2and 3=3;");
        fault("sail when 1a=1;", 1, 11);
        fault("sail when a1=1;", 1, 10);
        fault("1sail;", 1, 0);
        fault("sail1;", 1, 4);
        TownsUnderSail t = new TownsUnderSail();
        t.village(4, 4, 0, 1, 0);
        Due.tell(t, 0, "sail when 0010=10 and 9999>9998 and 1000=9999-8999 and 0=0000;");
        Due.is("what the digits say", t.hours(1), 1);
    }

    /** "2 (at the NUMBER) a part by 0". */
    private static void partsByZero() {
        fault("sail when x/0=1;", 2, 12);
        fault("sail when x/00=1;", 2, 12);
        fault("sail when x/000=1;", 2, 12);
        fault("sail when x/0000=1;", 2, 12);
        fault("sail when x/00000=1;", 1, 12);
        fault("sail when x/ \n 0=1;", 2, 15);
        fine("sail when x/1=1;");
        fine("sail when x/0001=1;");
        fine("sail when x/9999=1;");
        fine("sail when 0/1=0;");
        fine("sail when x*0=0;");
        fine("sail when x-0+0=0;");
        fault("sail when x/1/1/0=1;", 2, 16);
        fault("sail when x*2/0=1;", 2, 14);
        fault("sail when 1=1+x/0;", 2, 16);
        fault("sail when x/0", 2, 12);
        fault("sail when x/0 0", 2, 12);
        fault("sail when x/x=1;", 1, 12);
        fault("sail when x/(1)=1;", 1, 12);
        fault("sail when x/;", 1, 12);
        fault("sail when x/", 1, 12);
        fault("sail when x//1=1;", 1, 12);
        fault("sail when x/1x=1;", 1, 13);
        fine("sail when x/2*x=1;");
    }

    /** "Blanks (32, 10) between"; what is none of the told tokens can't stand anywhere. */
    private static void everyByte() {
        for (int sign = 0; sign < 256; sign++) {
            char c = (char) sign;
            boolean blank = sign == 32 || sign == 10;
            fault("sail;" + c, blank ? 0 : 1, blank ? -1 : 5);
            boolean word = c >= 'a' && c <= 'z' || c >= 'A' && c <= 'Z';
            int place = word ? 0 : c == ';' ? 5 : 4;
            fault("sail" + c + ";", blank ? 0 : 1, blank ? -1 : place);
            boolean sum = "+-*".indexOf(c) >= 0;
            boolean fine = blank || c >= '0' && c <= '9' || sum;
            place = c == '/' || c == ';' ? 14 : 13;
            fault("sail when x=1" + c + (sum ? "2;" : ";"), fine ? 0 : 1, fine ? -1 : place);
        }
        fine("\n\nsail\nwhen\nx\n=\n1\n;\n");
        fine("  sail  when  x  =  1  ;  ");
        fine("sail when x=1;furl when(x<1)and(y>2);");
        fault("sa il;", 1, 0);
        fault("sail when x= =1;", 1, 13);
        fault("sail when x<=1;", 1, 12);
    }

    /** "letters as many as stand together are KEYWORDS (those told here) or none". */
    private static void words() {
        String[] units = {"x", "y", "way", "force", "hour", "thirst", "crust", "near", "tied", "village"};
        for (String unit : units) {
            fine("sail when " + unit + "=" + unit + ";");
            fault("sail when " + unit + "s=1;", 1, 10);
            fault("sail when " + unit.substring(0, unit.length() - 1) + "=1;", 1, 10);
            fault("sail when x" + unit + "=1;", 1, 10);
            fault("sail when 1=" + unit + unit + ";", 1, 12);
            fault(unit + ";", 1, 0);
            fault("sail when x=1 " + unit + " y=1;", 1, 14);
        }
        String[] others = {"sail", "furl", "when", "or", "and", "not"};
        for (String other : others) {
            fault("sail when x=" + other + ";", 1, 12);
            fault("sail when " + other + ";", 1, other.equals("not") ? 13 : 10);
        }
        fault("sai;", 1, 0);
        fault("sailfurl;", 1, 0);
        fault("furls;", 1, 0);
        fault("sail whenx=1;", 1, 5);
        fault("sail whe x=1;", 1, 5);
        fault("sail when notx=1;", 1, 10);
        fault("sail when x=1 andy=1;", 1, 14);
        fault("sail when x=1 orx=1;", 1, 14);
        fine("sail when x=1and(y=1)or not(y=2);");
    }

    /** "1 what can't stand there (the end: the text's length)". */
    private static void theEnd() {
        String text = "sail when not(x+1<2 and y*3/4=5-6)or way>7;";
        for (int cut = 0; cut < text.length(); cut++) {
            String part = text.substring(0, cut);
            boolean open = part.endsWith("sa") || part.endsWith("sai") || part.equals("s");
            boolean word = part.matches(".*\\b(w|wh|whe|n|no|a|an|o|wa)");
            int place = cut;
            if (open) {
                place = 0;
            } else if (word) {
                place = cut - part.replaceAll(".*[^a-z]", "").length();
            }
            fault(part, cut == 0 ? 0 : 1, cut == 0 ? -1 : place);
            fault(part + " \n ", cut == 0 ? 0 : 1, cut == 0 ? -1 : place == cut ? cut + 3 : place);
        }
        fine(text);
        String full = "sail when x=" + "1+".repeat(193);
        fine(full + "1;");
        fault(full + "11", 1, 400);
        fault(full + "1 ", 1, 400);
        fault(full + "1x", 1, 399);
    }

    /** "FAULTS, the first by its place, at one place the least". */
    private static void firstFault() {
        fault("sail when x/0=1; 12345 ?", 2, 12);
        fault("sail when 12345/0=1;", 1, 10);
        fault("? sail when x/0=1;", 1, 0);
        fault("sail when " + "(".repeat(9) + "x/0=1;", 3, 18);
        fault("sail when x/0=1 and " + "(".repeat(9) + ";", 2, 12);
        fault("sail;".repeat(16) + "sail when x/0=1;", 3, 80);
        fault("sail;".repeat(15) + "sail when x/0=1;sail;", 2, 87);
        fault("sail when x/0=1;" + "sail;".repeat(17), 2, 12);
        fault("sail x/0;", 1, 5);
        fault("sail when x=1 x/0;", 1, 14);
        fault("sail when x/0?", 2, 12);
        fault("sail when x/?0", 1, 12);
    }

    /** One alone at (4, 4) goes in the first hour if its claim is so. */
    private static void so(String claim, boolean due) {
        TownsUnderSail t = new TownsUnderSail();
        t.village(4, 4, 0, 1, 0);
        Due.is("lines of " + claim, Due.tell(t, 0, "sail when " + claim + ";"), 1);
        Due.is(claim, t.hours(1), due ? 1 : 0);
    }

    /** "Ints, which wrap". */
    private static void wrapping() {
        String most = "9999*9999*21+9999*4790+8416";
        so(most + ">0", true);
        so(most + "+1<0", true);
        so(most + "+1>0", false);
        so(most + "+1=0-" + most.replace('+', '-') + "-1", true);
        so("0-" + most.replace('+', '-') + "<0", true);
        so("0-" + most.replace('+', '-') + "-1<0", true);
        so("0-" + most.replace('+', '-') + "-2>0", true);
        so("0-" + most.replace('+', '-') + "-2=" + most, true);
        so("9999*9999*21>0", true);
        so("9999*9999*22<0", true);
        so("4096*4096*256=0", true);
        so("4096*4096*128<0", true);
        so("4096*4096*128-1>0", true);
        so("4096*4096*127>0", true);
    }

    /** "/ goes towards 0". */
    private static void towardsZero() {
        so("7/2=3", true);
        so("1/2=0", true);
        so("9998/9999=0", true);
        so("9999/9999=1", true);
        so("9999*9999*22/3=0-9999*9999*6-9999*9859-8944", true);
        so("9999*9999*22/3=0-9999*9999*6-9999*9859-8945", false);
        so("4096*4096*128/1<0", true);
        so("4096*4096*128/9999=0-9999*21-4790", true);
        so("0-7/2=0-3", true);
    }

    /** B = A {or A}. A = C {and C}. E = T {(+ | -) T}. T = U {* U | / NUMBER}: which parts stand together. */
    private static void binding() {
        so("x=4 or x=5 and x=6", true);
        so("x=5 and x=6 or x=4", true);
        so("(x=4 or x=5) and x=6", false);
        so("not x=5 and x=6", false);
        so("not (x=5 and x=6)", true);
        so("not x=4", false);
        so("not x=5", true);
        so("not not x=4", true);
        so("not not x=5", false);
        so("not x=5 and x=4", true);
        so("x=4 and not x=5", true);
        so("x=5 and x=4", false);
        so("x=4 and x=5", false);
        so("x=5 or x=4", true);
        so("x=5 or x=6", false);
        so("x<5 and y=4", true);
        so("x>3 and y<5", true);
        so("x=4 and y>3", true);
        so("x<5 and not y>4 and y=4", true);
        so("near=0 and tied=0 and village=0", true);
        so("not x=4 or x=4", true);
        so("not not not x=5", true);
        so("2+3*4=14", true);
        so("2*3+4=10", true);
        so("9-4-3=2", true);
        so("9-4+3=8", true);
        so("8/4/2=1", true);
        so("8/4*2=4", true);
        so("3*5/2=7", true);
        so("5/2*3=6", true);
        so("x<4", false);
        so("x<5", true);
        so("x>4", false);
        so("x>3", true);
        so("x=3", false);
        so("x=5", false);
        so("x=4", true);
    }
}
