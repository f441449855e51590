/** Asks with numbers that are none such, one wrong at a time, and where there is no group. */
final class Refused {
    static final int MIN = Integer.MIN_VALUE;
    static final int MAX = Integer.MAX_VALUE;

    static final String LONE = "group 1;";
    /** 0, a, b, ab, ba, aba. */
    static final String SIX = "group 2;bond a b 3;";
    /** 0, a, b, ab, ba, aba, bab, abab. */
    static final String EIGHT = "group 2;bond a b 4;";
    /**
     * 0, a, b, c, ab, ac, ba, bc, cb, aba 9, abc, acb, bac, bcb 13, cba, abac, abcb, acba, bacb 18, bcba, abacb,
     * abcba 21, bacba, abacba 23.
     */
    static final String TWENTY_FOUR = "group 3;bond a b 3;bond b c 3;";
    /** No element is longer than its last one: 13 letters. */
    static final String THIRTEEN_LONG = "group 3;bond a b 12;";
    /** Each set of letters is one element. */
    static final String FREE = "group 5;";
    static final String SIXTY = "group 4;bond a b 3;bond c d 5;";

    /** A call with one number that is wrong. */
    interface Ask {
        long of(ReflectionWords x, int number);
    }

    /** A call whose numbers would be right in any group. */
    interface Plain {
        long of(ReflectionWords x);
    }

    private Refused() {
    }

    private static void all(String what, String text, long due, Ask ask, int... wrong) {
        ReflectionWords x = Check.of(text);
        for (int number : wrong) {
            Check.due(what + " " + number + " of " + text, ask.of(x, number), due);
        }
    }

    static void element(long due, Ask ask) {
        all("element", LONE, due, ask, -1, 2, 3, 32, 64, 65, MIN, MAX);
        all("element", SIX, due, ask, -1, -2, -64, 6, 7, 59, 64, 1 << 16, MIN, MIN + 1, MAX);
        all("element", SIXTY, due, ask, -1, -2, 60, 61, 63, 64, 65, 128, 3600, MIN, MIN + 59, MAX);
        ReflectionWords x = Check.of(SIXTY);
        Check.group(x, SIX);
        Check.due("element 6 of the larger group that was", ask.of(x, 6), due);
        Check.due("element 59 of the larger group that was", ask.of(x, 59), due);
    }

    static void letter(long due, Ask ask) {
        all("letter", LONE, due, ask, -1, 1, 2, 5, 32, MIN, MAX);
        all("letter", SIX, due, ask, -1, 2, 3, 4, 26, 32, 33, 97, MIN, MAX);
        all("letter", FREE, due, ask, -1, 5, 6, 25, 31, 32, 64, MIN, MAX);
    }

    static void set(long due, Ask ask) {
        all("set", LONE, due, ask, -1, 2, 3, 4, MIN, MAX);
        all("set", SIX, due, ask, -1, 4, 5, 7, 8, 1 << 30, MIN, MIN + 3, MAX);
        all("set", FREE, due, ask, -1, -32, 32, 33, 63, 64, MIN, MAX);
    }

    static void side(long due, Ask ask) {
        all("side", SIX, due, ask, -1, 2, 3, MIN, MAX);
    }

    static void kind(long due, Ask ask) {
        all("kind", SIX, due, ask, -1, 3, 4, MIN, MAX);
    }

    static void image(long due, Ask ask) {
        all("image", SIX, due, ask, -1, 3, 4, MIN, MAX);
    }

    static void negative(long due, Ask ask) {
        all("number", LONE, due, ask, -1, -2, -16, MIN, MIN + 1);
        all("number", SIX, due, ask, -1, -2, -16, MIN, MIN + 1);
    }

    /** No group was told, it was taken away, its text had a fault, it was too large. */
    static void noGroup(long due, Plain plain) {
        Check.due("ahead of any group", plain.of(new ReflectionWords()), due);
        ReflectionWords gone = Check.of(SIX);
        Check.group(gone, "");
        Check.due("behind a group that is gone", plain.of(gone), due);
        Check.due("behind a fault alone", plain.of(Check.of("group 2")), due);
        Check.due("behind a group too large alone", plain.of(Check.of("group 4;bond a b 4;bond c d 4;")), due);
    }
}
