/** A test for each sentence with a boundary case: promises 24 to 38 and 42, polynomials, cells, products. */
public final class BoundaryPolynomialsTest {
    private static final int MAX = Refused.MAX;
    private static final int NO_NUMBER = -1000000;
    private static final int NO_VALUE = -1000000000;
    private static final String LONE = Refused.LONE;
    private static final String SIX = Refused.SIX;
    private static final String TWENTY_FOUR = Refused.TWENTY_FOUR;
    private static final String FREE = Refused.FREE;
    private static final String THIRTEEN_LONG = Refused.THIRTEEN_LONG;
    private static final String SIXTY = Refused.SIXTY;
    /** The group of 24, and one letter that goes with all others. */
    private static final String FORTY_EIGHT = "group 4;bond a b 3;bond b c 3;";

    private BoundaryPolynomialsTest() {
    }

    public static void main(String[] args) throws IllegalAccessException {
        Named.run(BoundaryPolynomialsTest.class);
    }

    private static void due(String call, long got, long want) {
        Check.due(call, got, want);
    }

    /** Numbers far beyond any power, among them those by which a row of numbers would wrap. */
    private static final int[] BEYOND = {
        14, 15, 16, 17, 31, 32, 59, 60, 64, 480, 960, 3600, 28800, 1 << 28, 1 << 29, 1 << 30, MAX - 1, MAX};

    // Promise 24

    static void promise24_r_ofOne() {
        due("0 0", Check.of(LONE).r(0, 0, 0), 1);
        due("0 0, 1", Check.of(LONE).r(0, 0, 1), 0);
        due("59 59", Check.of(SIXTY).r(59, 59, 0), 1);
        due("59 59, 1", Check.of(SIXTY).r(59, 59, 1), 0);
    }

    static void promise24_r_notBelow() {
        for (int k = 0; k < 4; k++) {
            due("ab ba " + k, Check.of(SIX).r(3, 4, k), 0);
            due("aba 0 " + k, Check.of(SIX).r(5, 0, k), 0);
            due("a b " + k, Check.of(SIX).r(1, 2, k), 0);
        }
    }

    static void promise24_r_theFirstAndTheHighest() {
        ReflectionWords x = Check.of(THIRTEEN_LONG);
        due("0 longest, 0", x.r(0, 47, 0), -1);
        due("0 longest, 13", x.r(0, 47, 13), 1);
        due("0 a, 1", x.r(0, 1, 1), 1);
        due("0 a, 0", x.r(0, 1, 0), -1);
        int[] want = {-1, 2, -2, 1, 0};
        for (int k = 0; k < want.length; k++) {
            due("0 aba, " + k, Check.of(SIX).r(0, 5, k), want[k]);
        }
    }

    static void promise24_r_askedAgain() {
        ReflectionWords x = Check.of(SIX);
        due("0 aba, 1", x.r(0, 5, 1), 2);
        due("ab ba", x.r(3, 4, 0), 0);
        due("a a between", x.hecke(1, 1, 1, 0), -1);
        due("0 aba, 1", x.r(0, 5, 1), 2);
        due("0 0", x.r(0, 0, 0), 1);
        due("aba 0", x.r(5, 0, 0), 0);
    }

    static void promise24_r_0Beyond() {
        ReflectionWords x = Check.of(THIRTEEN_LONG);
        for (int k : BEYOND) {
            due("0 longest " + k, x.r(0, 47, k), 0);
            due("0 0 " + k, x.r(0, 0, k), 0);
            due("46 47 " + k, x.r(46, 47, k), 0);
        }
        due("0 aba, 4", Check.of(SIX).r(0, 5, 4), 0);
    }

    static void promise24_r_noneSuch() {
        Refused.element(NO_NUMBER, (x, n) -> x.r(n, 0, 0));
        Refused.element(NO_NUMBER, (x, n) -> x.r(0, n, 0));
        Refused.element(NO_NUMBER, (x, n) -> x.r(n, n, MAX));
        Refused.noGroup(NO_NUMBER, x -> x.r(0, 0, 0));
    }

    static void promise24_r_belowZero() {
        Refused.negative(NO_NUMBER, (x, n) -> x.r(0, 1, n));
        Refused.negative(NO_NUMBER, (x, n) -> x.r(1, 0, n));
    }

    // Promise 25

    static void promise25_p_ofOne() {
        due("0 0", Check.of(LONE).p(0, 0, 0), 1);
        due("0 0, 1", Check.of(LONE).p(0, 0, 1), 0);
        due("59 59", Check.of(SIXTY).p(59, 59, 0), 1);
    }

    static void promise25_p_notBelow() {
        for (int k = 0; k < 4; k++) {
            due("a b " + k, Check.of(TWENTY_FOUR).p(1, 2, k), 0);
            due("longest 0 " + k, Check.of(TWENTY_FOUR).p(23, 0, k), 0);
            due("abc bacb " + k, Check.of(TWENTY_FOUR).p(10, 18, k), 0);
        }
    }

    static void promise25_p_theHighestPowerIsHalfOfN() {
        ReflectionWords x = Check.of(TWENTY_FOUR);
        due("b bacb, 0", x.p(2, 18, 0), 1);
        due("b bacb, 1", x.p(2, 18, 1), 1);
        due("b bacb, 2", x.p(2, 18, 2), 0);
        due("ac abcba, 1", x.p(5, 21, 1), 1);
        due("ab bacb, 1", x.p(4, 18, 1), 0);
        due("0 abcba, 2", x.p(0, 21, 2), 0);
    }

    static void promise25_p_0Beyond() {
        ReflectionWords x = Check.of(FORTY_EIGHT);
        for (int k : BEYOND) {
            due("0 47 " + k, x.p(0, 47, k), 0);
            due("47 47 " + k, x.p(47, 47, k), 0);
            due("0 0 " + k, x.p(0, 0, k), 0);
        }
        for (int k = 1; k < 14; k++) {
            due("0 0 " + k, x.p(0, 0, k), 0);
            due("0 47 " + k, x.p(0, 47, k), 0);
        }
    }

    static void promise25_p_noneSuch() {
        Refused.element(NO_NUMBER, (x, n) -> x.p(n, 0, 0));
        Refused.element(NO_NUMBER, (x, n) -> x.p(0, n, 0));
        Refused.element(NO_NUMBER, (x, n) -> x.p(n, n, MAX));
        Refused.noGroup(NO_NUMBER, x -> x.p(0, 0, 0));
    }

    static void promise25_p_belowZero() {
        Refused.negative(NO_NUMBER, (x, n) -> x.p(0, 1, n));
        Refused.negative(NO_NUMBER, (x, n) -> x.p(1, 0, n));
    }

    // Promise 26

    static void promise26_degree_of1() {
        due("0 0", Check.of(LONE).degree(0, 0), 0);
        due("0 59", Check.of(SIXTY).degree(0, 59), 0);
    }

    static void promise26_degree_aboveThat() {
        due("b bacb", Check.of(TWENTY_FOUR).degree(2, 18), 1);
        due("0 abcba", Check.of(TWENTY_FOUR).degree(0, 21), 1);
        due("a bacb", Check.of(TWENTY_FOUR).degree(1, 18), 0);
    }

    static void promise26_degree_allAre0() {
        due("a b", Check.of(SIX).degree(1, 2), -1);
        due("ab ba", Check.of(SIX).degree(3, 4), -1);
        due("aba 0", Check.of(SIX).degree(5, 0), -1);
    }

    static void promise26_degree_noneSuch() {
        Refused.element(-2, (x, n) -> x.degree(n, 0));
        Refused.element(-2, (x, n) -> x.degree(0, n));
        Refused.element(-2, (x, n) -> x.degree(n, n));
        Refused.noGroup(-2, x -> x.degree(0, 0));
    }

    // Promise 27

    static void promise27_mu_1Shorter() {
        due("0 a", Check.of(LONE).mu(0, 1), 1);
        due("a ba", Check.of(SIX).mu(1, 4), 1);
        due("58 59", Check.of(SIXTY).mu(58, 59), 1);
    }

    static void promise27_mu_odd() {
        due("b bacb", Check.of(TWENTY_FOUR).mu(2, 18), 1);
        due("ac abcba", Check.of(TWENTY_FOUR).mu(5, 21), 1);
        due("0 aba", Check.of(SIX).mu(0, 5), 0);
        due("0 abcba", Check.of(TWENTY_FOUR).mu(0, 21), 0);
    }

    static void promise27_mu_0OfEven() {
        due("0 ab", Check.of(SIX).mu(0, 3), 0);
        due("0 bacb, P is not 1", Check.of(TWENTY_FOUR).mu(0, 18), 0);
        due("a abcba, P is not 1", Check.of(TWENTY_FOUR).mu(1, 21), 0);
        due("0 longest", Check.of(TWENTY_FOUR).mu(0, 23), 0);
    }

    static void promise27_mu_ofOne() {
        due("0 0", Check.of(SIX).mu(0, 0), 0);
        due("aba aba", Check.of(SIX).mu(5, 5), 0);
    }

    static void promise27_mu_notBelow() {
        due("a 0", Check.of(SIX).mu(1, 0), 0);
        due("bacb b", Check.of(TWENTY_FOUR).mu(18, 2), 0);
        due("a bc, 1 shorter", Check.of(FREE).mu(1, 10), 0);
        due("a b", Check.of(FREE).mu(1, 2), 0);
    }

    static void promise27_mu_noneSuch() {
        Refused.element(-2, (x, n) -> x.mu(n, 0));
        Refused.element(-2, (x, n) -> x.mu(0, n));
        Refused.element(-2, (x, n) -> x.mu(n, n));
        Refused.noGroup(-2, x -> x.mu(0, 0));
    }

    // Promise 28

    static void promise28_at_minus3To3() {
        int[] want = {-2, -1, 0, 1, 2, 3, 4};
        for (int at = -3; at <= 3; at++) {
            due("1 + q at " + at, Check.of(TWENTY_FOUR).at(2, 18, at), want[at + 3]);
            due("1 at " + at, Check.of(TWENTY_FOUR).at(0, 0, at), 1);
            due("0 at " + at, Check.of(TWENTY_FOUR).at(18, 2, at), 0);
        }
    }

    static void promise28_at_beyond3() {
        for (int at : new int[] {-4, 4, -5, 5, 100, Refused.MIN, MAX}) {
            due("at " + at, Check.of(TWENTY_FOUR).at(2, 18, at), NO_VALUE);
            due("0 at " + at, Check.of(TWENTY_FOUR).at(18, 2, at), NO_VALUE);
        }
    }

    static void promise28_at_noneSuch() {
        Refused.element(NO_VALUE, (x, n) -> x.at(n, 0, 1));
        Refused.element(NO_VALUE, (x, n) -> x.at(0, n, 1));
        Refused.element(NO_VALUE, (x, n) -> x.at(n, n, 9));
        Refused.noGroup(NO_VALUE, x -> x.at(0, 0, 0));
    }

    // Promise 29

    static void promise29_q_ofOne() {
        due("0 0", Check.of(LONE).q(0, 0, 0), 1);
        due("59 59", Check.of(SIXTY).q(59, 59, 0), 1);
        due("59 59, 1", Check.of(SIXTY).q(59, 59, 1), 0);
    }

    static void promise29_q_notBelow() {
        due("a 0", Check.of(SIX).q(1, 0, 0), 0);
        due("ab ba", Check.of(SIX).q(3, 4, 0), 0);
        due("bacb b, 1", Check.of(TWENTY_FOUR).q(18, 2, 1), 0);
    }

    static void promise29_q_byTheOtherEnd() {
        ReflectionWords x = Check.of(TWENTY_FOUR);
        for (int v = 0; v < 24; v += 5) {
            for (int w = 0; w < 24; w += 3) {
                int low = x.times(23, w);
                int high = x.times(23, v);
                due(v + " " + w, x.q(v, w, 1), x.p(low, high, 1));
            }
        }
    }

    static void promise29_q_isNotP() {
        ReflectionWords x = Check.of(TWENTY_FOUR);
        due("q 0 bacb, 1", x.q(0, 18, 1), 0);
        due("p 0 bacb, 1", x.p(0, 18, 1), 1);
        due("q b bacb, 1", x.q(2, 18, 1), 1);
        due("q b longest, 1", x.q(2, 23, 1), 1);
        due("p b longest, 1", x.p(2, 23, 1), 0);
    }

    static void promise29_q_0Beyond() {
        ReflectionWords x = Check.of(TWENTY_FOUR);
        for (int k : BEYOND) {
            due("b bacb " + k, x.q(2, 18, k), 0);
        }
        due("b bacb 2", x.q(2, 18, 2), 0);
    }

    static void promise29_q_noneSuch() {
        Refused.element(NO_NUMBER, (x, n) -> x.q(n, 0, 0));
        Refused.element(NO_NUMBER, (x, n) -> x.q(0, n, 0));
        Refused.element(NO_NUMBER, (x, n) -> x.q(n, n, MAX));
        Refused.noGroup(NO_NUMBER, x -> x.q(0, 0, 0));
    }

    static void promise29_q_belowZero() {
        Refused.negative(NO_NUMBER, (x, n) -> x.q(0, 1, n));
        Refused.negative(NO_NUMBER, (x, n) -> x.q(1, 0, n));
    }

    // Promise 30

    static void promise30_smooth_theEnds() {
        due("0", Check.of(LONE).smooth(0), 1);
        due("a", Check.of(LONE).smooth(1), 1);
        due("0", Check.of(TWENTY_FOUR).smooth(0), 1);
        due("longest", Check.of(TWENTY_FOUR).smooth(23), 1);
        due("59", Check.of(SIXTY).smooth(59), 1);
    }

    static void promise30_smooth_not() {
        due("bacb", Check.of(TWENTY_FOUR).smooth(18), 0);
        due("abcba", Check.of(TWENTY_FOUR).smooth(21), 0);
        due("abacb, above bacb", Check.of(TWENTY_FOUR).smooth(20), 1);
    }

    static void promise30_smooth_noneSuch() {
        Refused.element(-2, (x, n) -> x.smooth(n));
        Refused.noGroup(-2, x -> x.smooth(0));
    }

    // Promise 31

    static void promise31_tallest_of1() {
        due("group 1", Check.of(LONE).tallest(), 1);
        due("none crooked", Check.of(SIXTY).tallest(), 1);
        due("some crooked", Check.of(TWENTY_FOUR).tallest(), 1);
    }

    static void promise31_tallest_withoutGroup() {
        Refused.noGroup(-2, x -> x.tallest());
    }

    // Promise 32

    static void promise32_crooked_none() {
        due("group 1", Check.of(LONE).crooked(), 0);
        due("60", Check.of(SIXTY).crooked(), 0);
    }

    static void promise32_crooked_some() {
        due("24", Check.of(TWENTY_FOUR).crooked(), 6);
        due("48: below without d, or above with it", Check.of(FORTY_EIGHT).crooked(), 18);
    }

    static void promise32_crooked_withoutGroup() {
        Refused.noGroup(-2, x -> x.crooked());
    }

    // Promise 33

    static void promise33_crookedPair_byTheLowerThenTheUpper() {
        int[] want = {18, 21, 121, 218, 321, 521};
        for (int i = 0; i < want.length; i++) {
            due("pair " + i, Check.of(TWENTY_FOUR).crookedPair(i), want[i]);
        }
        ReflectionWords x = Check.of(FORTY_EIGHT);
        for (int i = 1; i < 18; i++) {
            due("pair " + i + " is the higher", x.crookedPair(i) > x.crookedPair(i - 1) ? 1 : 0, 1);
        }
    }

    static void promise33_crookedPair_notSoMany() {
        due("6 of 6", Check.of(TWENTY_FOUR).crookedPair(6), -1);
        due("18 of 18", Check.of(FORTY_EIGHT).crookedPair(18), -1);
        due("0 of none", Check.of(LONE).crookedPair(0), -1);
        due("0 of none", Check.of(SIXTY).crookedPair(0), -1);
        due("MAX", Check.of(TWENTY_FOUR).crookedPair(MAX), -1);
    }

    static void promise33_crookedPair_belowZero() {
        Refused.negative(-2, (x, n) -> x.crookedPair(n));
        due("-1 of some", Check.of(TWENTY_FOUR).crookedPair(-1), -2);
    }

    static void promise33_crookedPair_withoutGroup() {
        Refused.noGroup(-2, x -> x.crookedPair(0));
        Refused.noGroup(-2, x -> x.crookedPair(MAX));
    }

    // Promise 34

    static void promise34_cell_alone() {
        for (int kind = 0; kind < 3; kind++) {
            due("0", Check.of(SIX).cell(0, kind), 0);
            due("the longest", Check.of(SIX).cell(5, kind), 5);
            due("59", Check.of(SIXTY).cell(59, kind), 59);
        }
    }

    static void promise34_cell_byKind() {
        due("ab, left", Check.of(SIX).cell(3, 0), 2);
        due("ab, right", Check.of(SIX).cell(3, 1), 1);
        due("ab, both", Check.of(SIX).cell(3, 2), 1);
        due("b, both", Check.of(SIX).cell(2, 2), 1);
    }

    static void promise34_cell_noneSuch() {
        Refused.element(-2, (x, n) -> x.cell(n, 0));
        Refused.element(-2, (x, n) -> x.cell(n, 2));
        Refused.kind(-2, (x, n) -> x.cell(3, n));
        Refused.noGroup(-2, x -> x.cell(0, 0));
    }

    // Promise 35

    static void promise35_cellOf_alone() {
        for (int kind = 0; kind < 3; kind++) {
            due("0", Check.of(SIXTY).cellOf(0, kind), 1);
            due("59", Check.of(SIXTY).cellOf(59, kind), 1L << 59);
            due("a of 1", Check.of(LONE).cellOf(1, kind), 2);
        }
    }

    static void promise35_cellOf_byKind() {
        due("a, left", Check.of(SIX).cellOf(1, 0), 18);
        due("a, right", Check.of(SIX).cellOf(1, 1), 10);
        due("a, both", Check.of(SIX).cellOf(1, 2), 30);
    }

    static void promise35_cellOf_noneSuch() {
        Refused.element(-2, (x, n) -> x.cellOf(n, 0));
        Refused.element(-2, (x, n) -> x.cellOf(n, 2));
        Refused.kind(-2, (x, n) -> x.cellOf(3, n));
        Refused.noGroup(-2, x -> x.cellOf(0, 0));
    }

    // Promise 36

    static void promise36_cellMany_eachAlone() {
        for (int kind = 0; kind < 3; kind++) {
            due("group 1", Check.of(LONE).cellMany(kind), 2);
            due("group 5", Check.of(FREE).cellMany(kind), 32);
        }
    }

    static void promise36_cellMany_byKind() {
        due("left", Check.of(SIXTY).cellMany(0), 16);
        due("right", Check.of(SIXTY).cellMany(1), 16);
        due("both", Check.of(SIXTY).cellMany(2), 9);
    }

    static void promise36_cellMany_noneSuch() {
        Refused.kind(-2, (x, n) -> x.cellMany(n));
        Refused.noGroup(-2, x -> x.cellMany(0));
        Refused.noGroup(-2, x -> x.cellMany(2));
        Refused.noGroup(-2, x -> x.cellMany(3));
    }

    // Promise 37

    static void promise37_under_itself() {
        for (int kind = 0; kind < 3; kind++) {
            for (int e = 0; e < 6; e++) {
                due("itself " + e, Check.of(SIX).under(e, e, kind), 1);
            }
            due("59", Check.of(SIXTY).under(59, 59, kind), 1);
        }
    }

    static void promise37_under_theEnds() {
        for (int kind = 0; kind < 3; kind++) {
            due("from 0 to the longest", Check.of(SIXTY).under(59, 0, kind), 1);
            due("from the longest to 0", Check.of(SIXTY).under(0, 59, kind), 0);
            due("from the longest to one ahead", Check.of(SIXTY).under(58, 59, kind), 0);
        }
    }

    static void promise37_under_byKind() {
        due("ab from a, left", Check.of(SIX).under(3, 1, 0), 0);
        due("ab from a, right", Check.of(SIX).under(3, 1, 1), 1);
        due("ab from a, both", Check.of(SIX).under(3, 1, 2), 1);
        due("ba from a, left", Check.of(SIX).under(4, 1, 0), 1);
        due("ba from a, right", Check.of(SIX).under(4, 1, 1), 0);
        due("b from a, both", Check.of(SIX).under(2, 1, 2), 1);
    }

    static void promise37_under_noneSuch() {
        Refused.element(-2, (x, n) -> x.under(n, 0, 0));
        Refused.element(-2, (x, n) -> x.under(0, n, 0));
        Refused.element(-2, (x, n) -> x.under(n, n, 2));
        Refused.kind(-2, (x, n) -> x.under(3, 4, n));
        Refused.kind(-2, (x, n) -> x.under(3, 3, n));
        Refused.noGroup(-2, x -> x.under(0, 0, 0));
    }

    // Promise 38

    static void promise38_product_2ForItself() {
        due("a a", Check.of(LONE).product(0, 1, 1), 2);
        due("a ab", Check.of(SIX).product(0, 3, 3), 2);
        for (int s = 0; s < 4; s++) {
            due("the longest by " + s, Check.of(SIXTY).product(s, 59, 59), 2);
        }
    }

    static void promise38_product_nothingElseThen() {
        for (int z = 0; z < 6; z++) {
            due("a aba, " + z, Check.of(SIX).product(0, 5, z), z == 5 ? 2 : 0);
            due("a a, " + z, Check.of(SIX).product(0, 1, z), z == 1 ? 2 : 0);
        }
    }

    static void promise38_product_longerOnce() {
        int[] ba = {0, 1, 0, 0, 0, 1};
        int[] none = {0, 1, 0, 0, 0, 0};
        for (int z = 0; z < 6; z++) {
            due("a ba, " + z, Check.of(SIX).product(0, 4, z), ba[z]);
            due("a 0, " + z, Check.of(SIX).product(0, 0, z), none[z]);
        }
    }

    static void promise38_product_noneSuch() {
        Refused.letter(-2, (x, n) -> x.product(n, 0, 0));
        Refused.letter(-2, (x, n) -> x.product(n, 1, 1));
        Refused.element(-2, (x, n) -> x.product(0, n, 0));
        Refused.element(-2, (x, n) -> x.product(0, 0, n));
        Refused.element(-2, (x, n) -> x.product(0, 1, n));
        Refused.element(-2, (x, n) -> x.product(0, n, n));
        Refused.noGroup(-2, x -> x.product(0, 0, 0));
    }

    // Promise 42

    static void promise42_hecke_byElement0() {
        for (int z = 0; z < 6; z++) {
            due("0 aba, " + z, Check.of(SIX).hecke(0, 5, z, 0), z == 5 ? 1 : 0);
            due("aba 0, " + z, Check.of(SIX).hecke(5, 0, z, 0), z == 5 ? 1 : 0);
            due("0 0, " + z, Check.of(SIX).hecke(0, 0, z, 0), z == 0 ? 1 : 0);
        }
    }

    static void promise42_hecke_longer() {
        due("a b, ab", Check.of(SIX).hecke(1, 2, 3, 0), 1);
        due("a b, ab, 1", Check.of(SIX).hecke(1, 2, 3, 1), 0);
        due("a b, ba", Check.of(SIX).hecke(1, 2, 4, 0), 0);
    }

    static void promise42_hecke_shorter() {
        due("a a, 0, 0", Check.of(LONE).hecke(1, 1, 0, 0), 0);
        due("a a, 0, 1", Check.of(LONE).hecke(1, 1, 0, 1), 1);
        due("a a, a, 0", Check.of(LONE).hecke(1, 1, 1, 0), -1);
        due("a a, a, 1", Check.of(LONE).hecke(1, 1, 1, 1), 1);
    }

    static void promise42_hecke_theHighest() {
        int[] want = {-1, 2, -2, 1, 0};
        for (int k = 0; k < want.length; k++) {
            due("aba aba, aba, " + k, Check.of(SIX).hecke(5, 5, 5, k), want[k]);
        }
        ReflectionWords x = Check.of(THIRTEEN_LONG);
        due("longest longest, 0, 13", x.hecke(47, 47, 0, 13), 1);
        due("longest longest, 0, 12", x.hecke(47, 47, 0, 12), 0);
        due("longest longest, longest, 13", x.hecke(47, 47, 47, 13), 1);
        due("longest longest, longest, 0", x.hecke(47, 47, 47, 0), -1);
    }

    static void promise42_hecke_0Beyond() {
        ReflectionWords x = Check.of(THIRTEEN_LONG);
        for (int k : BEYOND) {
            due("longest longest, longest " + k, x.hecke(47, 47, 47, k), 0);
            due("longest longest, 0 " + k, x.hecke(47, 47, 0, k), 0);
            due("0 0, 0 " + k, x.hecke(0, 0, 0, k), 0);
        }
    }

    static void promise42_hecke_noneSuch() {
        Refused.element(NO_NUMBER, (x, n) -> x.hecke(n, 0, 0, 0));
        Refused.element(NO_NUMBER, (x, n) -> x.hecke(0, n, 0, 0));
        Refused.element(NO_NUMBER, (x, n) -> x.hecke(0, 0, n, 0));
        Refused.element(NO_NUMBER, (x, n) -> x.hecke(n, n, n, MAX));
        Refused.noGroup(NO_NUMBER, x -> x.hecke(0, 0, 0, 0));
    }

    static void promise42_hecke_belowZero() {
        Refused.negative(NO_NUMBER, (x, n) -> x.hecke(0, 0, 0, n));
        Refused.negative(NO_NUMBER, (x, n) -> x.hecke(1, 1, 1, n));
    }
}
