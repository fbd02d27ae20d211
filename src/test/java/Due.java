/** What all tests share: counting answers that are not as due, and feeding texts. */
final class Due {
    private static int wrong = 0;
    private static int asked = 0;

    private Due() {
    }

    static void is(String call, long got, long want) {
        asked++;
        if (got != want) {
            wrong++;
            System.out.println(call + " answered " + got + ", due is " + want);
        }
    }

    static void is(String call, boolean got, boolean want) {
        is(call, got ? 1L : 0L, want ? 1L : 0L);
    }

    static void finish() {
        System.out.println(asked + " answers, " + wrong + " not as due");
        if (wrong != 0) {
            System.exit(1);
        }
    }

    /** Feeds the text as bytes and cuts the tape behind it. */
    static void feed(TownsUnderSail towns, String text) {
        int[] five = new int[5];
        int had = 0;
        for (int from = 0; from < text.length(); from += 20) {
            for (int i = 0; i < 20; i++) {
                int sign = from + i < text.length() ? text.charAt(from + i) & 255 : 32;
                five[i / 4] = five[i / 4] << 8 | sign;
            }
            had = towns.feed(five[0], five[1], five[2], five[3], five[4]);
        }
        if (had >= text.length()) {
            towns.end(text.length());
        }
    }

    /** Orders told on an empty tape. */
    static int tell(TownsUnderSail towns, int kind, String text) {
        towns.end(0);
        feed(towns, text);
        return towns.text(kind);
    }
}
