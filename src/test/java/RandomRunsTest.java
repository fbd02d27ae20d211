import java.util.Random;

/** All promises: long runs of calls, the same on the class and on the naive towns, compared call by call. */
public final class RandomRunsTest {
    /** The document promises nothing of an object's later calls. */
    private static final int MOST_CALLS = 512;
    /** More than any step of a run asks. */
    private static final int MOST_AT_ONCE = 100;
    private static final String[] WORDS = {"sail", "furl", "when", "or", "and", "not", "x", "y", "way", "force", "hour",
        "thirst", "crust", "near", "tied", "village", ";", "+", "-", "*", "/", "(", ")", "<", "=", ">", "0", "1", "7",
        "12", "9999", "12345", "Sail", "z", ",", "\n", "  ", "\t", "\u00e9"};
    private static final String[] NAMES = {"x", "y", "way", "force", "hour", "thirst", "crust", "near", "tied", "village"};

    private final Random random;
    private final TownsUnderSail t = new TownsUnderSail();
    private final NaiveTowns n = new NaiveTowns();
    private final String run;
    private int calls;

    private RandomRunsTest(int seed) {
        random = new Random(seed);
        run = "run " + seed + ": ";
    }

    public static void main(String[] args) {
        int runs = args.length > 0 ? Integer.parseInt(args[0]) : 3000;
        for (int seed = 0; seed < runs; seed++) {
            new RandomRunsTest(seed).go();
        }
        Due.finish();
    }

    private void go() {
        if (random.nextInt(4) > 0) {
            prepare();
        }
        while (calls <= MOST_CALLS - MOST_AT_ONCE) {
            call(random.nextInt(60));
        }
        for (int v = 0; v < n.look(3) && calls < MOST_CALLS; v++) {
            same("of(" + v + ", 9)", t.of(v, 9), n.of(v, 9));
        }
        Due.is(run + "an object bears so many calls", calls <= MOST_CALLS, true);
    }

    private void prepare() {
        int sides = random.nextBoolean() ? 3 : 10;
        tellPlain(3 + random.nextInt(sides), 3 + random.nextInt(sides));
        int towns = 1 + random.nextInt(10);
        for (int i = 0; i < towns; i++) {
            tellVillage();
        }
        for (int i = 0; i < towns; i++) {
            tellRope();
        }
        for (int h = 0; h < 24; h++) {
            tellWind(h);
        }
        for (int kind = 0; kind < 4; kind++) {
            tellText(kind);
        }
        for (int i = random.nextInt(10); i > 0; i--) {
            tell(random.nextInt(2));
        }
        state(random.nextInt());
        if (random.nextInt(20) == 0) {
            goToLastDays();
        }
    }

    /** TIME 9840 of 9999, from which most calls of hours can't be. */
    private void goToLastDays() {
        for (int i = 0; i < 41; i++) {
            same("hours(240)", t.hours(240), n.hours(240));
        }
    }

    /** Mostly within what can be, now and then just or far outside. */
    private int some(int least, int most) {
        int dice = random.nextInt(60);
        if (dice == 0) {
            return least - 1;
        }
        if (dice == 1) {
            return most + 1;
        }
        if (dice == 2) {
            return random.nextInt();
        }
        return least + random.nextInt(most - least + 1);
    }

    private int someX() {
        return some(0, n.look(0) - 1);
    }

    private int someY() {
        return some(0, n.look(1) - 1);
    }

    private int someTown() {
        return some(0, Math.max(0, n.look(3) - 1));
    }

    private void same(String call, long got, long want) {
        calls++;
        Due.is(run + call, got, want);
    }

    private void same(String call, boolean got, boolean want) {
        calls++;
        Due.is(run + call, got, want);
    }

    private void state(int v) {
        same("state(" + v + ")", t.state(v), n.state(v));
    }

    private void tellPlain(int w, int h) {
        same("plain(" + w + ", " + h + ")", t.plain(w, h), n.plain(w, h));
    }

    private void tellVillage() {
        int x = someX();
        int y = someY();
        int weight = random.nextBoolean() ? some(0, 99) : some(30, 52);
        int sail = some(0, 3);
        int kind = some(0, 3);
        same("village(" + x + ", " + y + ", " + weight + ", " + sail + ", " + kind + ")",
            t.village(x, y, weight, sail, kind), n.village(x, y, weight, sail, kind));
    }

    private void tellRope() {
        int a = someTown();
        int b = someTown();
        int length = some(1, 12);
        same("rope(" + a + ", " + b + ", " + length + ")", t.rope(a, b, length), n.rope(a, b, length));
    }

    private void tellWind(int hour) {
        int way = some(0, 7);
        int force = some(0, 3);
        int shift = random.nextBoolean() ? 0 : some(0, 10);
        same("wind(" + hour + ", " + way + ", " + force + ", " + shift + ")",
            t.wind(hour, way, force, shift), n.wind(hour, way, force, shift));
    }

    private void tellText(int kind) {
        String text = random.nextInt(5) == 0 ? "sail;" : someText();
        if (random.nextInt(20) > 0) {
            same("end(0)", t.end(0), n.end(0));
        }
        int[] five = new int[5];
        int had = 0;
        for (int from = 0; from < text.length(); from += 20) {
            for (int i = 0; i < 20; i++) {
                five[i / 4] = five[i / 4] << 8 | (from + i < text.length() ? text.charAt(from + i) : 32);
            }
            had = n.feed(five);
            same("feed", t.feed(five[0], five[1], five[2], five[3], five[4]), had);
        }
        if (had >= text.length()) {
            int end = random.nextInt(5) == 0 ? some(0, text.length()) : text.length();
            same("end(" + end + ")", t.end(end), n.end(end));
        }
        same("text(" + kind + ") of [" + text + "]", t.text(kind), n.text(kind));
        same("fault(0) of [" + text + "]", t.fault(0), n.fault(0));
        same("fault(1) of [" + text + "]", t.fault(1), n.fault(1));
    }

    private String someText() {
        StringBuilder b = new StringBuilder();
        int lines = random.nextInt(12) == 0 ? 15 + random.nextInt(4) : 1 + random.nextInt(4);
        for (int i = 0; i < lines; i++) {
            b.append(random.nextInt(3) > 0 ? "sail" : "furl");
            if (lines < 15 && random.nextInt(4) > 0) {
                b.append(" when ");
                claims(b, 0, random.nextInt(8) == 0 ? 9 : 3);
            }
            b.append(';').append(random.nextBoolean() ? " " : "");
        }
        int spoils = random.nextInt(3) == 0 ? 1 + random.nextInt(2) : 0;
        for (int i = 0; i < spoils; i++) {
            int from = random.nextInt(b.length() + 1);
            int to = Math.min(b.length(), from + random.nextInt(4));
            b.replace(from, to, random.nextBoolean() ? WORDS[random.nextInt(WORDS.length)] : "");
        }
        return b.toString();
    }

    private void claims(StringBuilder b, int depth, int most) {
        int parts = 1 + random.nextInt(most > 3 ? 2 : 3);
        for (int i = 0; i < parts; i++) {
            if (i > 0) {
                b.append(random.nextBoolean() ? " and " : " or ");
            }
            int dice = random.nextInt(most > 3 ? 3 : 6);
            if (dice == 0 && depth < most) {
                b.append("not ");
                claims(b, depth + 1, most);
            } else if (dice == 1 && depth < most) {
                b.append('(');
                claims(b, depth + 1, most);
                b.append(')');
            } else {
                sum(b);
                b.append("<=>".charAt(random.nextInt(3)));
                sum(b);
            }
        }
    }

    private void sum(StringBuilder b) {
        int parts = 1 + random.nextInt(3);
        for (int i = 0; i < parts; i++) {
            if (i > 0) {
                b.append("+-**/".charAt(random.nextInt(5)));
            }
            boolean divides = b.charAt(b.length() - 1) == '/';
            if (divides || random.nextInt(3) == 0) {
                b.append(random.nextInt(random.nextBoolean() ? 10 : 9999));
            } else {
                b.append(NAMES[random.nextInt(NAMES.length)]);
            }
        }
    }

    private void call(int which) {
        if (which < 8) {
            tell(which);
        } else if (which < 12) {
            int hours = random.nextInt(10) == 0 ? some(1, 240) : some(1, 9);
            same("hours(" + hours + ")", t.hours(hours), n.hours(hours));
        } else if (which < 14) {
            for (int i = random.nextInt(8); i >= 0; i--) {
                same("undo()", t.undo(), n.undo());
            }
        } else if (which < 30) {
            ask(which % 5);
        } else if (which < 45) {
            think(which % 5);
        } else {
            whole(random.nextInt(8));
        }
    }

    private void tell(int which) {
        int v = some(0, 99);
        int x = someX();
        int y = someY();
        boolean is = random.nextBoolean();
        switch (which) {
            case 0:
                same("crust(" + x + ", " + y + ", " + v + ")", t.crust(x, y, v), n.crust(x, y, v));
                break;
            case 1:
                same("well(" + x + ", " + y + ", " + is + ")", t.well(x, y, is), n.well(x, y, is));
                break;
            case 2:
                tellWind(some(0, 23));
                break;
            case 3:
                tellVillage();
                break;
            case 4:
                int what = some(0, 3);
                int town = someTown();
                v = random.nextBoolean() ? v : some(0, 3);
                same("set(" + what + ", " + town + ", " + v + ")", t.set(what, town, v), n.set(what, town, v));
                break;
            case 5:
                tellRope();
                break;
            case 6:
                tellText(some(0, 3));
                break;
            default:
                if (random.nextInt(6) == 0) {
                    is = random.nextBoolean();
                    same("image(" + is + ")", t.image(is), n.image(is));
                } else if (random.nextInt(20) == 0) {
                    tellPlain(some(3, 12), some(3, 12));
                } else {
                    state(random.nextInt());
                }
        }
    }

    private void ask(int which) {
        int a = someTown();
        int b = someTown();
        int x = someX();
        int y = someY();
        int what = some(0, 10);
        int few = some(0, 3);
        switch (which) {
            case 0:
                same("of(" + a + ", " + what + ")", t.of(a, what), n.of(a, what));
                break;
            case 1:
                same("met(" + a + ", " + b + ")", t.met(a, b), n.met(a, b));
                break;
            case 2:
                int rope = some(0, Math.max(0, n.look(4) - 1));
                same("tie(" + rope + ", " + few + ")", t.tie(rope, few), n.tie(rope, few));
                break;
            case 3:
                same("at(" + x + ", " + y + ", " + few + ")", t.at(x, y, few), n.at(x, y, few));
                break;
            default:
                int look = some(0, 91);
                same("look(" + look + ")", t.look(look), n.look(look));
        }
    }

    private void think(int which) {
        int a = someTown();
        int b = someTown();
        int x = someX();
        int y = someY();
        int hours = some(0, which == 3 ? 12 : 24);
        switch (which) {
            case 0:
                same("soon(" + a + ", " + x + ", " + y + ")", t.soon(a, x, y), n.soon(a, x, y));
                break;
            case 1:
                same("meeting(" + a + ", " + b + ")", t.meeting(a, b), n.meeting(a, b));
                break;
            case 2:
                int what = some(0, 2);
                same("market(" + hours + ", " + what + ")", t.market(hours, what), n.market(hours, what));
                break;
            case 3:
                same("odds(" + a + ", " + x + ", " + y + ", " + hours + ")", t.odds(a, x, y, hours), n.odds(a, x, y, hours));
                break;
            default:
                int time = some(0, 9999);
                if (random.nextInt(3) == 0) {
                    same("seen(" + a + ", " + x + ", " + y + ", " + time + ")", t.seen(a, x, y, time), n.seen(a, x, y, time));
                }
                int i = random.nextBoolean() ? -1 : some(0, 9);
                same("places(" + a + ", " + hours + ", " + i + ")", t.places(a, hours, i), n.places(a, hours, i));
        }
    }

    private void whole(int part) {
        for (int v = 0; v < n.look(3); v++) {
            same("of(" + v + ", " + part + ")", t.of(v, part), n.of(v, part));
            same("of(" + v + ", 9)", t.of(v, 9), n.of(v, 9));
            same("of(" + v + ", 10)", t.of(v, 10), n.of(v, 10));
            same("met(" + part + ", " + v + ")", t.met(part, v), n.met(part, v));
        }
        for (int r = 0; r < n.look(4); r++) {
            same("tie(" + r + ", 3)", t.tie(r, 3), n.tie(r, 3));
        }
        for (int x = 0; x < n.look(0); x++) {
            same("at(" + x + ", " + part + ", 0)", t.at(x, part, 0), n.at(x, part, 0));
            same("at(" + x + ", " + part + ", 2)", t.at(x, part, 2), n.at(x, part, 2));
        }
        same("look(7)", t.look(7), n.look(7));
        same("look(5)", t.look(5), n.look(5));
        same("look(2)", t.look(2), n.look(2));
    }
}
