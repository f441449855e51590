/** A test for each sentence with a boundary case: promises 7 to 9 and 11 to 23, elements and which lie below which. */
public final class BoundaryElementsTest {
    private static final int MAX = Refused.MAX;
    private static final String LONE = Refused.LONE;
    private static final String SIX = Refused.SIX;
    private static final String EIGHT = Refused.EIGHT;
    private static final String TWENTY_FOUR = Refused.TWENTY_FOUR;
    private static final String FREE = Refused.FREE;
    private static final String THIRTEEN_LONG = Refused.THIRTEEN_LONG;
    private static final String SIXTY = Refused.SIXTY;
    private static final long ALL_60 = (1L << 60) - 1;

    private BoundaryElementsTest() {
    }

    public static void main(String[] args) throws IllegalAccessException {
        Named.run(BoundaryElementsTest.class);
    }

    private static void due(String call, long got, long want) {
        Check.due(call, got, want);
    }

    // Promise 7

    static void promise07_bond_aLetterAndItself() {
        due("a a of 1", Check.of(LONE).bond(0, 0), 1);
        for (int s = 0; s < 5; s++) {
            due("itself " + s, Check.of(FREE).bond(s, s), 1);
        }
    }

    static void promise07_bond_2WithoutLine() {
        due("a b", Check.of(FREE).bond(0, 1), 2);
        due("a e", Check.of(FREE).bond(0, 4), 2);
        due("e d", Check.of(FREE).bond(4, 3), 2);
    }

    static void promise07_bond_bothWaysRound() {
        ReflectionWords x = Check.of("group 3;bond c b 12;");
        due("b c", x.bond(1, 2), 12);
        due("c b", x.bond(2, 1), 12);
    }

    static void promise07_bond_noneSuch() {
        Refused.letter(-2, (x, n) -> x.bond(n, 0));
        Refused.letter(-2, (x, n) -> x.bond(0, n));
        Refused.letter(-2, (x, n) -> x.bond(n, n));
        Refused.noGroup(-2, x -> x.bond(0, 0));
        ReflectionWords y = Check.of(FREE);
        Check.group(y, SIX);
        due("a letter of the group that was", y.bond(0, 4), -2);
    }

    // Promise 8

    static void promise08_length_ofElement0() {
        due("0", Check.of(LONE).length(0), 0);
        due("0", Check.of(SIXTY).length(0), 0);
    }

    static void promise08_length_ofTheLongest() {
        due("a", Check.of(LONE).length(1), 1);
        due("59", Check.of(SIXTY).length(59), 8);
        due("58", Check.of(SIXTY).length(58), 7);
        due("47", Check.of(THIRTEEN_LONG).length(47), 13);
    }

    static void promise08_length_noneSuch() {
        Refused.element(-2, (x, n) -> x.length(n));
        Refused.noGroup(-2, x -> x.length(0));
    }

    // Promise 9

    static void promise09_letter_theLastOne() {
        ReflectionWords x = Check.of(TWENTY_FOUR);
        due("bacb 3", x.letter(18, 3), 1);
        due("abacba 5", x.letter(23, 5), 0);
        due("c 0", x.letter(3, 0), 2);
        due("abababababab c, 12", Check.of(THIRTEEN_LONG).letter(47, 12), 2);
    }

    static void promise09_letter_notSoMany() {
        ReflectionWords x = Check.of(TWENTY_FOUR);
        due("bacb 4", x.letter(18, 4), -1);
        due("abacba 6", x.letter(23, 6), -1);
        due("abacba MAX", x.letter(23, MAX), -1);
        due("c 1", x.letter(3, 1), -1);
        due("13 of 13", Check.of(THIRTEEN_LONG).letter(47, 13), -1);
    }

    static void promise09_letter_ofElement0() {
        due("0", Check.of(SIX).letter(0, 0), -1);
        due("MAX", Check.of(SIX).letter(0, MAX), -1);
    }

    static void promise09_letter_noneSuch() {
        Refused.element(-2, (x, n) -> x.letter(n, 0));
        Refused.element(-2, (x, n) -> x.letter(n, MAX));
        Refused.noGroup(-2, x -> x.letter(0, 0));
    }

    static void promise09_letter_belowZero() {
        Refused.negative(-2, (x, n) -> x.letter(0, n));
        Refused.negative(-2, (x, n) -> x.letter(1, n));
    }

    // Promise 11

    static void promise11_spellings_ofElement0() {
        due("0", Check.of(LONE).spellings(0), 1);
        due("0", Check.of(SIXTY).spellings(0), 1);
    }

    static void promise11_spellings_theMost() {
        due("aba", Check.of(SIX).spellings(5), 2);
        due("abacba", Check.of(TWENTY_FOUR).spellings(23), 16);
        due("abcde", Check.of(FREE).spellings(31), 120);
        due("the longest of 60", Check.of(SIXTY).spellings(59), 224);
        due("the most of all", Check.of("group 5;bond a e 3;").spellings(47), 240);
    }

    static void promise11_spellings_noneSuch() {
        Refused.element(-2, (x, n) -> x.spellings(n));
        Refused.noGroup(-2, x -> x.spellings(0));
    }

    // Promise 12

    private static void row(ReflectionWords x, int element, int k, String want) {
        for (int i = 0; i < want.length(); i++) {
            due("row " + k + " of " + element + ", " + i, x.spelled(element, k, i), want.charAt(i) - 'a');
        }
        due("row " + k + " of " + element + " ends", x.spelled(element, k, want.length()), -1);
    }

    static void promise12_spelled_theLeastFirst() {
        ReflectionWords x = Check.of(TWENTY_FOUR);
        row(x, 5, 0, "ac");
        row(x, 5, 1, "ca");
        row(x, 23, 0, "abacba");
        row(x, 18, 0, "bacb");
        row(x, 18, 1, "bcab");
    }

    static void promise12_spelled_theLastRow() {
        row(Check.of(TWENTY_FOUR), 23, 15, "cbcabc");
        row(Check.of(FREE), 31, 119, "edcba");
        row(Check.of(LONE), 1, 0, "a");
        row(Check.of(SIXTY), 59, 223, "dcdcdbab");
    }

    static void promise12_spelled_notSoManyRows() {
        ReflectionWords x = Check.of(TWENTY_FOUR);
        due("row 16 of the longest", x.spelled(23, 16, 0), -1);
        due("row 2 of ac", x.spelled(5, 2, 0), -1);
        due("row 1 of a", x.spelled(1, 1, 0), -1);
        due("row MAX", x.spelled(23, MAX, 0), -1);
        due("row 240 of the most", Check.of("group 5;bond a e 3;").spelled(47, 240, 0), -1);
    }

    static void promise12_spelled_notSoManyLetters() {
        ReflectionWords x = Check.of(TWENTY_FOUR);
        due("letter 6 of the longest", x.spelled(23, 15, 6), -1);
        due("letter MAX", x.spelled(23, 0, MAX), -1);
        due("both MAX", x.spelled(23, MAX, MAX), -1);
    }

    static void promise12_spelled_ofElement0() {
        ReflectionWords x = Check.of(SIX);
        due("0 0", x.spelled(0, 0, 0), -1);
        due("1 0", x.spelled(0, 1, 0), -1);
    }

    static void promise12_spelled_noneSuch() {
        Refused.element(-2, (x, n) -> x.spelled(n, 0, 0));
        Refused.element(-2, (x, n) -> x.spelled(n, MAX, MAX));
        Refused.noGroup(-2, x -> x.spelled(0, 0, 0));
    }

    static void promise12_spelled_belowZero() {
        Refused.negative(-2, (x, n) -> x.spelled(1, n, 0));
        Refused.negative(-2, (x, n) -> x.spelled(1, 0, n));
        Refused.negative(-2, (x, n) -> x.spelled(1, n, MAX));
        Refused.negative(-2, (x, n) -> x.spelled(1, MAX, n));
        Refused.negative(-2, (x, n) -> x.spelled(0, n, n));
    }

    // Promise 13

    static void promise13_times_element0() {
        ReflectionWords x = Check.of(SIXTY);
        due("0 0", x.times(0, 0), 0);
        due("0 59", x.times(0, 59), 59);
        due("59 0", x.times(59, 0), 59);
    }

    static void promise13_times_backToElement0() {
        due("a a", Check.of(LONE).times(1, 1), 0);
        due("ab ba", Check.of(SIX).times(3, 4), 0);
        due("59 59", Check.of(SIXTY).times(59, 59), 0);
    }

    static void promise13_times_oneBehindTheOther() {
        due("a b", Check.of(SIX).times(1, 2), 3);
        due("b a", Check.of(SIX).times(2, 1), 4);
    }

    static void promise13_times_noneSuch() {
        Refused.element(-2, (x, n) -> x.times(n, 0));
        Refused.element(-2, (x, n) -> x.times(0, n));
        Refused.element(-2, (x, n) -> x.times(n, n));
        Refused.noGroup(-2, x -> x.times(0, 0));
    }

    // Promise 14

    static void promise14_inverse_itself() {
        ReflectionWords x = Check.of(SIX);
        due("0", x.inverse(0), 0);
        due("a", x.inverse(1), 1);
        due("aba", x.inverse(5), 5);
        due("59", Check.of(SIXTY).inverse(59), 59);
    }

    static void promise14_inverse_anotherOne() {
        due("ab", Check.of(SIX).inverse(3), 4);
        due("ba", Check.of(SIX).inverse(4), 3);
        due("abc", Check.of(TWENTY_FOUR).inverse(10), 14);
    }

    static void promise14_inverse_noneSuch() {
        Refused.element(-2, (x, n) -> x.inverse(n));
        Refused.noGroup(-2, x -> x.inverse(0));
    }

    // Promise 15

    static void promise15_order_isAbove0() {
        due("0", Check.of(LONE).order(0), 1);
        due("a", Check.of(LONE).order(1), 2);
        due("0", Check.of(SIXTY).order(0), 1);
    }

    static void promise15_order_theHighest() {
        due("ab of bond 12", Check.of("group 2;bond a b 12;").order(3), 12);
        ReflectionWords x = Check.of(SIXTY);
        due("abcd", x.order(Check.element(x, "abcd")), 15);
        ReflectionWords y = Check.of("group 3;bond a b 11;");
        due("abc of bond 11", y.order(Check.element(y, "abc")), 22);
    }

    static void promise15_order_noneSuch() {
        Refused.element(-2, (x, n) -> x.order(n));
        Refused.noGroup(-2, x -> x.order(0));
    }

    // Promise 16

    static void promise16_descents_none() {
        due("0 ahead", Check.of(FREE).descents(0, 0), 0);
        due("0 behind", Check.of(FREE).descents(0, 1), 0);
    }

    static void promise16_descents_all() {
        due("a", Check.of(LONE).descents(1, 0), 1);
        due("abcde ahead", Check.of(FREE).descents(31, 0), 31);
        due("abcde behind", Check.of(FREE).descents(31, 1), 31);
        due("59", Check.of(SIXTY).descents(59, 1), 15);
    }

    static void promise16_descents_bySide() {
        due("ab ahead", Check.of(SIX).descents(3, 0), 1);
        due("ab behind", Check.of(SIX).descents(3, 1), 2);
        due("acb ahead", Check.of(TWENTY_FOUR).descents(11, 0), 5);
        due("acb behind", Check.of(TWENTY_FOUR).descents(11, 1), 2);
    }

    static void promise16_descents_noneSuch() {
        Refused.element(-2, (x, n) -> x.descents(n, 0));
        Refused.element(-2, (x, n) -> x.descents(n, 1));
        Refused.side(-2, (x, n) -> x.descents(3, n));
        Refused.noGroup(-2, x -> x.descents(0, 0));
    }

    // Promise 17

    static void promise17_reflection_byNumber() {
        int[] want = {1, 2, 3, 9, 13, 21};
        for (int i = 0; i < want.length; i++) {
            due("reflection " + i, Check.of(TWENTY_FOUR).reflection(i), want[i]);
        }
    }

    static void promise17_reflection_notSoMany() {
        due("1 of 1", Check.of(LONE).reflection(1), -1);
        due("6 of 6", Check.of(TWENTY_FOUR).reflection(6), -1);
        due("8 of 8", Check.of(SIXTY).reflection(8), -1);
        due("60", Check.of(SIXTY).reflection(60), -1);
        due("MAX", Check.of(SIX).reflection(MAX), -1);
        ReflectionWords x = Check.of(THIRTEEN_LONG);
        due("12 of 13", x.reflection(12) > 0 ? 1 : 0, 1);
        due("13 of 13", x.reflection(13), -1);
        Check.group(x, LONE);
        due("of the group that was", x.reflection(1), -1);
    }

    static void promise17_reflection_belowZero() {
        Refused.negative(-2, (x, n) -> x.reflection(n));
    }

    static void promise17_reflection_withoutGroup() {
        Refused.noGroup(-2, x -> x.reflection(0));
        Refused.noGroup(-2, x -> x.reflection(MAX));
        Refused.noGroup(-2, x -> x.reflection(-1));
    }

    // Promise 18

    static void promise18_below_itself() {
        for (int e = 0; e < 24; e++) {
            due("itself " + e, Check.of(TWENTY_FOUR).below(e, e), 1);
        }
    }

    static void promise18_below_0AndTheLongest() {
        ReflectionWords x = Check.of(SIXTY);
        for (int e = 0; e < 60; e++) {
            due("0 below " + e, x.below(0, e), 1);
            due(e + " below the longest", x.below(e, 59), 1);
        }
        due("59 below 0", x.below(59, 0), 0);
    }

    static void promise18_below_notOfOneLength() {
        due("ab ba", Check.of(SIX).below(3, 4), 0);
        due("a b", Check.of(SIX).below(1, 2), 0);
        due("ba a", Check.of(SIX).below(4, 1), 0);
    }

    static void promise18_below_lettersApart() {
        due("ac below bacb", Check.of(TWENTY_FOUR).below(5, 18), 1);
        due("abc not below bacb", Check.of(TWENTY_FOUR).below(10, 18), 0);
        due("aba below abcba", Check.of(TWENTY_FOUR).below(9, 21), 1);
        due("bacb not below abcba", Check.of(TWENTY_FOUR).below(18, 21), 0);
    }

    static void promise18_below_noneSuch() {
        Refused.element(-2, (x, n) -> x.below(n, 0));
        Refused.element(-2, (x, n) -> x.below(0, n));
        Refused.element(-2, (x, n) -> x.below(n, n));
        Refused.noGroup(-2, x -> x.below(0, 0));
    }

    // Promise 19

    static void promise19_covers_noneAtTheEnds() {
        due("0 covers", Check.of(SIXTY).covers(0, 0), 0);
        due("what covers 59", Check.of(SIXTY).covers(59, 1), 0);
    }

    static void promise19_covers_bothSides() {
        due("aba covers", Check.of(SIX).covers(5, 0), 24);
        due("what covers 0", Check.of(SIX).covers(0, 1), 6);
        due("a covers", Check.of(SIX).covers(1, 0), 1);
        due("what covers a", Check.of(SIX).covers(1, 1), 24);
        due("a of 1 covers", Check.of(LONE).covers(1, 0), 1);
    }

    static void promise19_covers_highBits() {
        due("59 covers", Check.of(SIXTY).covers(59, 0), 15L << 55);
        due("58 covers none above 54", Check.of(SIXTY).covers(58, 0) >> 55, 0);
        due("what covers 58", Check.of(SIXTY).covers(58, 1), 1L << 59);
    }

    static void promise19_covers_oneShorterAlone() {
        due("abcba covers not a", Check.of(TWENTY_FOUR).covers(21, 0), 1L << 15 | 1L << 16 | 1L << 17 | 1L << 19);
    }

    static void promise19_covers_noneSuch() {
        Refused.element(-2, (x, n) -> x.covers(n, 0));
        Refused.element(-2, (x, n) -> x.covers(n, 1));
        Refused.side(-2, (x, n) -> x.covers(3, n));
        Refused.noGroup(-2, x -> x.covers(0, 0));
    }

    // Promise 20

    static void promise20_interval_itself() {
        due("0", Check.of(LONE).interval(0, 0), 1);
        due("59", Check.of(SIXTY).interval(59, 59), 1L << 59);
        due("32", Check.of(SIXTY).interval(32, 32), 1L << 32);
    }

    static void promise20_interval_all() {
        due("0 a", Check.of(LONE).interval(0, 1), 3);
        due("0 59", Check.of(SIXTY).interval(0, 59), ALL_60);
    }

    static void promise20_interval_notBelow() {
        due("a b", Check.of(SIX).interval(1, 2), 0);
        due("ab ba", Check.of(SIX).interval(3, 4), 0);
        due("aba 0", Check.of(SIX).interval(5, 0), 0);
        due("59 0", Check.of(SIXTY).interval(59, 0), 0);
    }

    static void promise20_interval_noneSuch() {
        Refused.element(-2, (x, n) -> x.interval(n, 0));
        Refused.element(-2, (x, n) -> x.interval(0, n));
        Refused.element(-2, (x, n) -> x.interval(n, n));
        Refused.noGroup(-2, x -> x.interval(0, 0));
    }

    // Promise 21

    static void promise21_layer_theFirstAndTheLast() {
        ReflectionWords x = Check.of(TWENTY_FOUR);
        due("0 longest, 0", x.layer(0, 23, 0), 1);
        due("0 longest, 6", x.layer(0, 23, 6), 1);
        due("b bacb, 0", x.layer(2, 18, 0), 1);
        due("b bacb, 3", x.layer(2, 18, 3), 1);
        due("itself", x.layer(18, 18, 0), 1);
    }

    static void promise21_layer_beyond() {
        ReflectionWords x = Check.of(TWENTY_FOUR);
        due("0 longest, 7", x.layer(0, 23, 7), 0);
        due("b bacb, 4", x.layer(2, 18, 4), 0);
        due("itself, 1", x.layer(18, 18, 1), 0);
        due("MAX", x.layer(0, 23, MAX), 0);
        due("MAX of the longest", x.layer(23, 23, MAX), 0);
    }

    static void promise21_layer_notBelow() {
        due("a b", Check.of(SIX).layer(1, 2, 0), 0);
        due("aba 0", Check.of(SIX).layer(5, 0, 0), 0);
        due("aba 0, 3", Check.of(SIX).layer(5, 0, 3), 0);
    }

    static void promise21_layer_noneSuch() {
        Refused.element(-2, (x, n) -> x.layer(n, 0, 0));
        Refused.element(-2, (x, n) -> x.layer(0, n, 0));
        Refused.noGroup(-2, x -> x.layer(0, 0, 0));
    }

    static void promise21_layer_belowZero() {
        Refused.negative(-2, (x, n) -> x.layer(0, 1, n));
        Refused.negative(-2, (x, n) -> x.layer(1, 0, n));
    }

    // Promise 22

    static void promise22_chains_1OfOne() {
        due("0 0", Check.of(LONE).chains(0, 0), 1);
        due("59 59", Check.of(SIXTY).chains(59, 59), 1);
    }

    static void promise22_chains_0OfNone() {
        due("ab ba", Check.of(SIX).chains(3, 4), 0);
        due("ba ab", Check.of(SIX).chains(4, 3), 0);
        due("aba 0", Check.of(SIX).chains(5, 0), 0);
    }

    static void promise22_chains_many() {
        due("0 a", Check.of(LONE).chains(0, 1), 1);
        due("0 aba", Check.of(SIX).chains(0, 5), 4);
        due("0 abcde", Check.of(FREE).chains(0, 31), 120);
        due("twelve long, and c anywhere", Check.of(THIRTEEN_LONG).chains(0, 47), 13 * 2048);
    }

    static void promise22_chains_askedAgain() {
        ReflectionWords x = Check.of(SIX);
        due("0 aba", x.chains(0, 5), 4);
        due("ab ba", x.chains(3, 4), 0);
        due("aba 0", x.chains(5, 0), 0);
        due("a aba", x.chains(1, 5), 2);
        due("a b", x.chains(1, 2), 0);
    }

    static void promise22_chains_noneSuch() {
        Refused.element(-2, (x, n) -> x.chains(n, 0));
        Refused.element(-2, (x, n) -> x.chains(0, n));
        Refused.element(-2, (x, n) -> x.chains(n, n));
        Refused.noGroup(-2, x -> x.chains(0, 0));
    }

    // Promise 23

    static void promise23_layers_theFirstAndTheLast() {
        due("0", Check.of(SIXTY).layers(0), 1);
        due("1", Check.of(SIXTY).layers(1), 4);
        due("8", Check.of(SIXTY).layers(8), 1);
        due("13", Check.of(THIRTEEN_LONG).layers(13), 1);
        due("1 of 1", Check.of(LONE).layers(1), 1);
    }

    static void promise23_layers_beyond() {
        due("9", Check.of(SIXTY).layers(9), 0);
        due("14", Check.of(THIRTEEN_LONG).layers(14), 0);
        due("60", Check.of(SIXTY).layers(60), 0);
        due("MAX", Check.of(SIX).layers(MAX), 0);
        ReflectionWords x = Check.of(SIXTY);
        Check.group(x, EIGHT);
        due("of the group that was", x.layers(8), 0);
    }

    static void promise23_layers_belowZero() {
        Refused.negative(-2, (x, n) -> x.layers(n));
    }

    static void promise23_layers_withoutGroup() {
        Refused.noGroup(-2, x -> x.layers(0));
        Refused.noGroup(-2, x -> x.layers(1));
        Refused.noGroup(-2, x -> x.layers(MAX));
    }
}
