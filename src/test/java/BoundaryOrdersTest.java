/** A test for each sentence with a boundary case: promises 39 to 41, 43 to 58, sets of letters, orders, mirrors. */
public final class BoundaryOrdersTest {
    private static final int MAX = Refused.MAX;
    private static final int NO_NUMBER = -1000000;
    private static final String LONE = Refused.LONE;
    private static final String SIX = Refused.SIX;
    private static final String EIGHT = Refused.EIGHT;
    private static final String TWENTY_FOUR = Refused.TWENTY_FOUR;
    private static final String FREE = Refused.FREE;
    private static final String THIRTEEN_LONG = Refused.THIRTEEN_LONG;
    private static final String SIXTY = Refused.SIXTY;
    private static final String MOST_ROWS = "group 5;bond a e 3;";

    private BoundaryOrdersTest() {
    }

    public static void main(String[] args) throws IllegalAccessException {
        Named.run(BoundaryOrdersTest.class);
    }

    private static void due(String call, long got, long want) {
        Check.due(call, got, want);
    }

    // Promise 39

    static void promise39_least_byNoLetters() {
        for (int e = 0; e < 6; e++) {
            due("of " + e, Check.of(SIX).least(e, 0), e);
        }
        due("of 59", Check.of(SIXTY).least(59, 0), 59);
    }

    static void promise39_least_byAllLetters() {
        for (int e = 0; e < 6; e++) {
            due("of " + e, Check.of(SIX).least(e, 3), 0);
        }
        due("of 59", Check.of(SIXTY).least(59, 15), 0);
        due("of a", Check.of(LONE).least(1, 1), 0);
        due("of abcde", Check.of(FREE).least(31, 31), 0);
    }

    static void promise39_least_bySomeBehindIt() {
        due("aba by a", Check.of(SIX).least(5, 1), 3);
        due("aba by b", Check.of(SIX).least(5, 2), 4);
        due("ab by a", Check.of(SIX).least(3, 1), 3);
        due("abcde by e", Check.of(FREE).least(31, 16), 26);
        due("0 by a", Check.of(SIX).least(0, 1), 0);
    }

    static void promise39_least_noneSuch() {
        Refused.element(-2, (x, n) -> x.least(n, 0));
        Refused.element(-2, (x, n) -> x.least(n, 1));
        Refused.set(-2, (x, n) -> x.least(0, n));
        Refused.set(-2, (x, n) -> x.least(1, n));
        Refused.noGroup(-2, x -> x.least(0, 0));
    }

    // Promise 40

    static void promise40_longest_ofNoLetters() {
        due("of none", Check.of(LONE).longest(0), 0);
        due("of none", Check.of(SIXTY).longest(0), 0);
    }

    static void promise40_longest_ofAllLetters() {
        due("1", Check.of(LONE).longest(1), 1);
        due("3", Check.of(SIX).longest(3), 5);
        due("15", Check.of(SIXTY).longest(15), 59);
        due("31", Check.of(FREE).longest(31), 31);
        due("7", Check.of(THIRTEEN_LONG).longest(7), 47);
    }

    static void promise40_longest_ofSome() {
        due("e", Check.of(FREE).longest(16), 5);
        due("a, c", Check.of(TWENTY_FOUR).longest(5), 5);
        due("b, c", Check.of(TWENTY_FOUR).longest(6), 13);
        due("a, b twelve times", Check.of(THIRTEEN_LONG).length(Check.of(THIRTEEN_LONG).longest(3)), 12);
    }

    static void promise40_longest_noneSuch() {
        Refused.set(-2, (x, n) -> x.longest(n));
        Refused.noGroup(-2, x -> x.longest(0));
        Refused.noGroup(-2, x -> x.longest(1));
    }

    // Promise 41

    static void promise41_inside_element0() {
        due("0 of 0", Check.of(SIX).inside(0, 0), 1);
        due("0 of aba: aa is no shortest row", Check.of(SIX).inside(5, 0), 1);
        due("a of 0", Check.of(SIX).inside(0, 1), 0);
        due("0 of 59", Check.of(SIXTY).inside(59, 0), 1);
    }

    static void promise41_inside_itself() {
        for (int e = 0; e < 6; e++) {
            due("itself " + e, Check.of(SIX).inside(e, e), 1);
        }
        due("59", Check.of(SIXTY).inside(59, 59), 1);
    }

    static void promise41_inside_none() {
        due("aba of a", Check.of(SIX).inside(1, 5), 0);
        due("ab of ba", Check.of(SIX).inside(4, 3), 0);
        due("59 of 58", Check.of(SIXTY).inside(58, 59), 0);
    }

    static void promise41_inside_manyPlaces() {
        ReflectionWords x = Check.of(THIRTEEN_LONG);
        due("a", x.inside(47, 1), 6);
        due("c", x.inside(47, 3), 1);
        due("ab", x.inside(47, 4), 21);
        due("ac", x.inside(47, 5), 6);
    }

    static void promise41_inside_anyShortestRow() {
        due("ca of cba is ac", Check.of(TWENTY_FOUR).inside(14, 5), 1);
    }

    static void promise41_inside_askedAgain() {
        ReflectionWords x = Check.of(SIX);
        due("a of aba", x.inside(5, 1), 2);
        due("a of aba", x.inside(5, 1), 2);
        due("aba of ab", x.inside(3, 5), 0);
        due("0 of ab", x.inside(3, 0), 1);
    }

    static void promise41_inside_noneSuch() {
        Refused.element(-2, (x, n) -> x.inside(n, 0));
        Refused.element(-2, (x, n) -> x.inside(0, n));
        Refused.element(-2, (x, n) -> x.inside(n, n));
        Refused.noGroup(-2, x -> x.inside(0, 0));
    }

    // Promise 43

    static void promise43_weakly_itself() {
        for (int side = 0; side < 2; side++) {
            due("0", Check.of(LONE).weakly(0, 0, side), 1);
            due("59", Check.of(SIXTY).weakly(59, 59, side), 1);
            due("ab", Check.of(SIX).weakly(3, 3, side), 1);
        }
    }

    static void promise43_weakly_theEnds() {
        for (int side = 0; side < 2; side++) {
            due("0 59", Check.of(SIXTY).weakly(0, 59, side), 1);
            due("31 59", Check.of(SIXTY).weakly(31, 59, side), 1);
            due("59 0", Check.of(SIXTY).weakly(59, 0, side), 0);
        }
    }

    static void promise43_weakly_bySide() {
        due("a ab, behind", Check.of(SIX).weakly(1, 3, 1), 1);
        due("a ab, ahead", Check.of(SIX).weakly(1, 3, 0), 0);
        due("b ab, behind", Check.of(SIX).weakly(2, 3, 1), 0);
        due("b ab, ahead", Check.of(SIX).weakly(2, 3, 0), 1);
    }

    static void promise43_weakly_noneSuch() {
        Refused.element(-2, (x, n) -> x.weakly(n, 0, 0));
        Refused.element(-2, (x, n) -> x.weakly(0, n, 1));
        Refused.element(-2, (x, n) -> x.weakly(n, n, 0));
        Refused.side(-2, (x, n) -> x.weakly(0, 0, n));
        Refused.side(-2, (x, n) -> x.weakly(3, 5, n));
        Refused.noGroup(-2, x -> x.weakly(0, 0, 0));
    }

    // Promise 44

    static void promise44_meet_theEnds() {
        for (int side = 0; side < 2; side++) {
            due("0 and 59", Check.of(SIXTY).meet(0, 59, side), 0);
            due("59 and 0", Check.of(SIXTY).meet(59, 0, side), 0);
            due("58 and 59", Check.of(SIXTY).meet(58, 59, side), 58);
            due("a and b", Check.of(SIX).meet(1, 2, side), 0);
        }
    }

    static void promise44_meet_itself() {
        for (int e = 0; e < 6; e++) {
            due("ahead " + e, Check.of(SIX).meet(e, e, 0), e);
            due("behind " + e, Check.of(SIX).meet(e, e, 1), e);
        }
        due("59", Check.of(SIXTY).meet(59, 59, 1), 59);
    }

    static void promise44_meet_bySide() {
        due("ba bc, behind", Check.of(TWENTY_FOUR).meet(6, 7, 1), 2);
        due("ba bc, ahead", Check.of(TWENTY_FOUR).meet(6, 7, 0), 0);
        due("ab cb, ahead", Check.of(TWENTY_FOUR).meet(4, 8, 0), 2);
        due("ab cb, behind", Check.of(TWENTY_FOUR).meet(4, 8, 1), 0);
    }

    static void promise44_meet_noneSuch() {
        Refused.element(-2, (x, n) -> x.meet(n, 0, 0));
        Refused.element(-2, (x, n) -> x.meet(0, n, 1));
        Refused.element(-2, (x, n) -> x.meet(n, n, 0));
        Refused.side(-2, (x, n) -> x.meet(0, 0, n));
        Refused.noGroup(-2, x -> x.meet(0, 0, 0));
    }

    // Promise 45

    static void promise45_join_theEnds() {
        for (int side = 0; side < 2; side++) {
            due("0 and 59", Check.of(SIXTY).join(0, 59, side), 59);
            due("59 and 0", Check.of(SIXTY).join(59, 0, side), 59);
            due("0 and 58", Check.of(SIXTY).join(0, 58, side), 58);
            due("57 and 58", Check.of(SIXTY).join(57, 58, side), 59);
            due("0 and a", Check.of(LONE).join(0, 1, side), 1);
        }
    }

    static void promise45_join_itself() {
        for (int e = 0; e < 6; e++) {
            due("ahead " + e, Check.of(SIX).join(e, e, 0), e);
            due("behind " + e, Check.of(SIX).join(e, e, 1), e);
        }
    }

    static void promise45_join_bySide() {
        due("ba bc, behind", Check.of(TWENTY_FOUR).join(6, 7, 1), 12);
        due("ba bc, ahead", Check.of(TWENTY_FOUR).join(6, 7, 0), 21);
        due("a b", Check.of(TWENTY_FOUR).join(1, 2, 0), 9);
        due("a c", Check.of(TWENTY_FOUR).join(1, 3, 1), 5);
    }

    static void promise45_join_noneSuch() {
        Refused.element(-2, (x, n) -> x.join(n, 0, 0));
        Refused.element(-2, (x, n) -> x.join(0, n, 1));
        Refused.element(-2, (x, n) -> x.join(n, n, 0));
        Refused.side(-2, (x, n) -> x.join(0, 0, n));
        Refused.noGroup(-2, x -> x.join(0, 0, 0));
    }

    // Promise 46

    static void promise46_moves_noneFromItself() {
        due("0", Check.of(SIX).moves(0, 0, 0), 0);
        due("a", Check.of(SIX).moves(1, 0, 0), 0);
        due("the last row", Check.of(MOST_ROWS).moves(47, 239, 239), 0);
    }

    static void promise46_moves_one() {
        due("ab ba", Check.of("group 2;").moves(3, 0, 1), 1);
        due("aba bab", Check.of(SIX).moves(5, 0, 1), 1);
        due("twelve by turns", Check.of("group 2;bond a b 12;").moves(23, 0, 1), 1);
        due("and back", Check.of("group 2;bond a b 12;").moves(23, 1, 0), 1);
    }

    static void promise46_moves_fromTheFirstRowToTheLast() {
        due("abcde edcba", Check.of(FREE).moves(31, 0, 119), 10);
        due("the most rows, and back", Check.of(MOST_ROWS).moves(47, 239, 0), Check.of(MOST_ROWS).moves(47, 0, 239));
        due("60", Check.of(SIXTY).moves(59, 0, 223), 17);
    }

    static void promise46_moves_noSuchRow() {
        due("1 of 0", Check.of(SIX).moves(0, 0, 1), -2);
        due("1 of 0", Check.of(SIX).moves(0, 1, 0), -2);
        due("2 of aba", Check.of(SIX).moves(5, 0, 2), -2);
        due("2 of aba", Check.of(SIX).moves(5, 2, 0), -2);
        due("2 of aba, twice", Check.of(SIX).moves(5, 2, 2), -2);
        due("240", Check.of(MOST_ROWS).moves(47, 0, 240), -2);
        due("240", Check.of(MOST_ROWS).moves(47, 240, 0), -2);
        due("MAX", Check.of(MOST_ROWS).moves(47, MAX, MAX), -2);
        due("of the longer one ahead", rowsOfAnother().moves(1, 0, 1), -2);
    }

    private static ReflectionWords rowsOfAnother() {
        ReflectionWords x = Check.of(FREE);
        x.moves(31, 0, 119);
        return x;
    }

    static void promise46_moves_noneSuch() {
        Refused.element(-2, (x, n) -> x.moves(n, 0, 0));
        Refused.negative(-2, (x, n) -> x.moves(0, n, 0));
        Refused.negative(-2, (x, n) -> x.moves(0, 0, n));
        Refused.negative(-2, (x, n) -> x.moves(1, n, n));
        Refused.noGroup(-2, x -> x.moves(0, 0, 0));
    }

    // Promise 47

    static void promise47_inversions_none() {
        due("0", Check.of(LONE).inversions(0), 0);
        due("0", Check.of(SIXTY).inversions(0), 0);
    }

    static void promise47_inversions_all() {
        due("a", Check.of(LONE).inversions(1), 1);
        due("aba", Check.of(SIX).inversions(5), 7);
        due("59", Check.of(SIXTY).inversions(59), 255);
        due("thirteen", Check.of(THIRTEEN_LONG).inversions(47), 8191);
    }

    static void promise47_inversions_aheadOfIt() {
        due("ab", Check.of(SIX).inversions(3), 5);
        due("ba", Check.of(SIX).inversions(4), 6);
    }

    static void promise47_inversions_noneSuch() {
        Refused.element(-2, (x, n) -> x.inversions(n));
        Refused.noGroup(-2, x -> x.inversions(0));
    }

    // Promise 48

    static void promise48_mirrors_ofElement0() {
        due("0", Check.of(LONE).mirrors(0), 0);
        due("0", Check.of(SIXTY).mirrors(0), 0);
    }

    static void promise48_mirrors_ofReflections() {
        due("a", Check.of(LONE).mirrors(1), 1);
        for (int i = 0; i < 6; i++) {
            due("reflection " + i, Check.of(TWENTY_FOUR).mirrors(Check.of(TWENTY_FOUR).reflection(i)), 1);
        }
    }

    static void promise48_mirrors_theMost() {
        due("abcde", Check.of(FREE).mirrors(31), 5);
        due("abc", Check.of(TWENTY_FOUR).mirrors(10), 3);
        due("the longest by fewer", Check.of(TWENTY_FOUR).mirrors(23), 2);
    }

    static void promise48_mirrors_noneSuch() {
        Refused.element(-2, (x, n) -> x.mirrors(n));
        Refused.noGroup(-2, x -> x.mirrors(0));
    }

    // Promise 49

    static void promise49_mirror_ofElement0() {
        due("0", Check.of(LONE).mirror(0), -1);
        due("0", Check.of(SIXTY).mirror(0), -1);
    }

    static void promise49_mirror_ofReflections() {
        for (int i = 0; i < 6; i++) {
            due("reflection " + i, Check.of(TWENTY_FOUR).mirror(Check.of(TWENTY_FOUR).reflection(i)), i);
        }
    }

    static void promise49_mirror_theLeast() {
        due("ab", Check.of(SIX).mirror(3), 0);
        due("ba", Check.of(SIX).mirror(4), 0);
        due("longest", Check.of(TWENTY_FOUR).mirror(23), 1);
        due("de", Check.of(FREE).mirror(15), 3);
    }

    static void promise49_mirror_noneSuch() {
        Refused.element(-2, (x, n) -> x.mirror(n));
        Refused.noGroup(-2, x -> x.mirror(0));
    }

    // Promise 50

    static void promise50_cosets_ofNoLetters() {
        due("1", Check.of(LONE).cosets(0), 2);
        due("60", Check.of(SIXTY).cosets(0), 60);
    }

    static void promise50_cosets_ofAllLetters() {
        due("1", Check.of(LONE).cosets(1), 1);
        due("60", Check.of(SIXTY).cosets(15), 1);
        due("32", Check.of(FREE).cosets(31), 1);
    }

    static void promise50_cosets_ofSome() {
        due("a of 6", Check.of(SIX).cosets(1), 3);
        due("a, b of 60", Check.of(SIXTY).cosets(3), 10);
        due("c, d of 60", Check.of(SIXTY).cosets(12), 6);
    }

    static void promise50_cosets_noneSuch() {
        Refused.set(-2, (x, n) -> x.cosets(n));
        Refused.noGroup(-2, x -> x.cosets(0));
    }

    // Promise 51

    static void promise51_coset_byNumber() {
        int[] want = {0, 2, 3};
        for (int i = 0; i < 3; i++) {
            due("a, " + i, Check.of(SIX).coset(1, i), want[i]);
            due("none, " + i, Check.of(SIX).coset(0, i), i);
        }
        due("none, 59", Check.of(SIXTY).coset(0, 59), 59);
        due("all, 0", Check.of(SIXTY).coset(15, 0), 0);
    }

    static void promise51_coset_notSoMany() {
        due("a, 3", Check.of(SIX).coset(1, 3), -1);
        due("none, 6", Check.of(SIX).coset(0, 6), -1);
        due("none, 60", Check.of(SIXTY).coset(0, 60), -1);
        due("all, 1", Check.of(SIXTY).coset(15, 1), -1);
        due("MAX", Check.of(SIX).coset(1, MAX), -1);
    }

    static void promise51_coset_noneSuch() {
        Refused.set(-2, (x, n) -> x.coset(n, 0));
        Refused.set(-2, (x, n) -> x.coset(n, MAX));
        Refused.noGroup(-2, x -> x.coset(0, 0));
    }

    static void promise51_coset_belowZero() {
        Refused.negative(-2, (x, n) -> x.coset(0, n));
        Refused.negative(-2, (x, n) -> x.coset(1, n));
    }

    // Promise 52

    static void promise52_pBy_noLetters() {
        due("b bacb, 1", Check.of(TWENTY_FOUR).pBy(0, 2, 18, 1), 1);
        due("0 0", Check.of(SIX).pBy(0, 0, 0, 0), 1);
        due("a b", Check.of(SIX).pBy(0, 1, 2, 0), 0);
    }

    static void promise52_pBy_allLetters() {
        due("0 longest", Check.of(TWENTY_FOUR).pBy(7, 0, 23, 0), 1);
        due("longest 0", Check.of(TWENTY_FOUR).pBy(7, 23, 0, 0), 1);
        due("1", Check.of(TWENTY_FOUR).pBy(7, 23, 0, 1), 0);
    }

    /** Of least() and longest() with b: 0 becomes b, bac becomes bacb; with a, c: b becomes bac, acb becomes acbac. */
    static void promise52_pBy_leastAndLongest() {
        due("0 bac, by b", Check.of(TWENTY_FOUR).pBy(2, 0, 12, 1), 1);
        due("b bacb, by b", Check.of(TWENTY_FOUR).pBy(2, 2, 18, 1), 1);
        due("0 bac, by b, 0", Check.of(TWENTY_FOUR).pBy(2, 0, 12, 0), 1);
        due("a b, by a, c", Check.of(TWENTY_FOUR).pBy(5, 1, 2, 0), 1);
        due("b a, by a, c", Check.of(TWENTY_FOUR).pBy(5, 2, 1, 0), 0);
    }

    static void promise52_pBy_0Beyond() {
        for (int k : new int[] {2, 3, 8, 16, 60, 480, MAX}) {
            due("0 bac, by b, " + k, Check.of(TWENTY_FOUR).pBy(2, 0, 12, k), 0);
        }
    }

    static void promise52_pBy_noneSuch() {
        Refused.set(NO_NUMBER, (x, n) -> x.pBy(n, 0, 0, 0));
        Refused.element(NO_NUMBER, (x, n) -> x.pBy(0, n, 0, 0));
        Refused.element(NO_NUMBER, (x, n) -> x.pBy(1, 0, n, 0));
        Refused.element(NO_NUMBER, (x, n) -> x.pBy(1, n, n, MAX));
        Refused.noGroup(NO_NUMBER, x -> x.pBy(0, 0, 0, 0));
    }

    static void promise52_pBy_belowZero() {
        Refused.negative(NO_NUMBER, (x, n) -> x.pBy(0, 0, 0, n));
        Refused.negative(NO_NUMBER, (x, n) -> x.pBy(1, 0, 1, n));
    }

    // Promise 53

    static void promise53_weakMany_theEnds() {
        for (int side = 0; side < 2; side++) {
            due("0: itself", Check.of(SIXTY).weakMany(0, side), 1);
            due("59: all", Check.of(SIXTY).weakMany(59, side), 60);
            due("a: 0 and itself", Check.of(LONE).weakMany(1, side), 2);
        }
    }

    static void promise53_weakMany_onEachSide() {
        due("acb, behind: 0, a, c, ac, itself", Check.of(TWENTY_FOUR).weakMany(11, 1), 5);
        due("acb, ahead: 0, b, ab, cb, itself", Check.of(TWENTY_FOUR).weakMany(11, 0), 5);
        due("abcb, behind: 0, a, c, ab, ac, abc, acb, itself", Check.of(TWENTY_FOUR).weakMany(16, 1), 8);
        due("abcb, ahead: 0, b, c, bc, cb, abc, bcb, itself", Check.of(TWENTY_FOUR).weakMany(16, 0), 8);
    }

    static void promise53_weakMany_noneSuch() {
        Refused.element(-2, (x, n) -> x.weakMany(n, 0));
        Refused.element(-2, (x, n) -> x.weakMany(n, 1));
        Refused.side(-2, (x, n) -> x.weakMany(0, n));
        Refused.noGroup(-2, x -> x.weakMany(0, 0));
    }

    // Promise 54

    static void promise54_paths_ofNoReflections() {
        due("0 0", Check.of(LONE).paths(0, 0, 0), 1);
        due("59 59", Check.of(SIXTY).paths(59, 59, 0), 1);
        due("0 a", Check.of(LONE).paths(0, 1, 0), 0);
        due("0 59", Check.of(SIXTY).paths(0, 59, 0), 0);
    }

    static void promise54_paths_toItself() {
        due("1", Check.of(SIX).paths(3, 3, 1), 0);
        due("2", Check.of(SIX).paths(3, 3, 2), 0);
        due("30", Check.of(SIX).paths(5, 5, 30), 0);
    }

    static void promise54_paths_eachMakesItLonger() {
        due("a 0", Check.of(LONE).paths(1, 0, 1), 0);
        due("aba 0", Check.of(SIX).paths(5, 0, 1), 0);
        due("aba 0, 3", Check.of(SIX).paths(5, 0, 3), 0);
        due("0 aba, 1", Check.of(SIX).paths(0, 5, 1), 1);
        due("0 aba, 2", Check.of(SIX).paths(0, 5, 2), 0);
        due("0 aba, 3", Check.of(SIX).paths(0, 5, 3), 4);
        due("0 aba, 4", Check.of(SIX).paths(0, 5, 4), 0);
        due("0 abcde, 5", Check.of(FREE).paths(0, 31, 5), 120);
    }

    static void promise54_paths_theMostSteps() {
        due("13 of 13", Check.of(THIRTEEN_LONG).paths(0, 47, 13), 13 * 2048);
        due("14 of 13", Check.of(THIRTEEN_LONG).paths(0, 47, 14), 0);
        due("29", Check.of(THIRTEEN_LONG).paths(0, 47, 29), 0);
        due("30", Check.of(THIRTEEN_LONG).paths(0, 47, 30), 0);
        due("30 from 0 to 0", Check.of(SIX).paths(0, 0, 30), 0);
    }

    static void promise54_paths_askedAgain() {
        ReflectionWords x = Check.of(SIX);
        due("0 aba, 3", x.paths(0, 5, 3), 4);
        due("ab ab, 0", x.paths(3, 3, 0), 1);
        due("ab ba, 0", x.paths(3, 4, 0), 0);
        due("a aba, 2", x.paths(1, 5, 2), 2);
        due("inside between", x.inside(5, 1), 2);
        due("ba aba, 1", x.paths(4, 5, 1), 1);
    }

    static void promise54_paths_beyond30() {
        for (int n : new int[] {31, 32, 64, MAX}) {
            due("n " + n, Check.of(SIX).paths(0, 5, n), -2);
            due("n " + n, Check.of(SIX).paths(5, 0, n), -2);
        }
    }

    static void promise54_paths_belowZero() {
        Refused.negative(-2, (x, n) -> x.paths(0, 1, n));
        Refused.negative(-2, (x, n) -> x.paths(0, 0, n));
    }

    static void promise54_paths_noneSuch() {
        Refused.element(-2, (x, n) -> x.paths(n, 0, 0));
        Refused.element(-2, (x, n) -> x.paths(0, n, 1));
        Refused.element(-2, (x, n) -> x.paths(n, n, 30));
        Refused.noGroup(-2, x -> x.paths(0, 0, 0));
    }

    // Promise 55

    static void promise55_sided_noLetters() {
        due("0 alone", Check.of(LONE).sided(0, 0), 1);
        due("0 alone", Check.of(SIXTY).sided(0, 0), 1);
        due("none ahead alone", Check.of(SIXTY).sided(0, 1), 0);
        due("none behind alone", Check.of(SIXTY).sided(1, 0), 0);
    }

    static void promise55_sided_allLetters() {
        due("a", Check.of(LONE).sided(1, 1), 1);
        due("59 alone", Check.of(SIXTY).sided(15, 15), 1);
        due("all ahead alone", Check.of(SIXTY).sided(15, 7), 0);
    }

    static void promise55_sided_justTheseSets() {
        due("a, b: ab", Check.of(SIX).sided(1, 2), 1);
        due("a, a: a", Check.of(SIX).sided(1, 1), 1);
        due("b, b: b, bacb", Check.of(TWENTY_FOUR).sided(2, 2), 2);
        due("a, b: ab", Check.of(TWENTY_FOUR).sided(1, 2), 1);
    }

    static void promise55_sided_noneSuch() {
        Refused.set(-2, (x, n) -> x.sided(n, 0));
        Refused.set(-2, (x, n) -> x.sided(0, n));
        Refused.set(-2, (x, n) -> x.sided(n, n));
        Refused.noGroup(-2, x -> x.sided(0, 0));
    }

    // Promise 56

    static void promise56_euler_itself() {
        due("0", Check.of(LONE).euler(0, 0), 1);
        due("a, odd", Check.of(LONE).euler(1, 1), -1);
        due("ab", Check.of(SIX).euler(3, 3), 1);
        due("aba, odd", Check.of(SIX).euler(5, 5), -1);
    }

    static void promise56_euler_asManyEvenAsOdd() {
        due("0 a", Check.of(LONE).euler(0, 1), 0);
        due("0 59", Check.of(SIXTY).euler(0, 59), 0);
    }

    static void promise56_euler_notBelow() {
        due("a b", Check.of(SIX).euler(1, 2), 0);
        due("aba 0", Check.of(SIX).euler(5, 0), 0);
    }

    static void promise56_euler_noneSuch() {
        Refused.element(-2000, (x, n) -> x.euler(n, 0));
        Refused.element(-2000, (x, n) -> x.euler(0, n));
        Refused.element(-2000, (x, n) -> x.euler(n, n));
        Refused.noGroup(-2000, x -> x.euler(0, 0));
    }

    // Promise 57

    static void promise57_conjugate_itself() {
        due("0", Check.of(LONE).conjugate(0), 0);
        due("0", Check.of(SIXTY).conjugate(0), 0);
        due("abab", Check.of(EIGHT).conjugate(7), 7);
        for (int e = 0; e < 32; e++) {
            due("of 32, " + e, Check.of(FREE).conjugate(e), e);
        }
    }

    static void promise57_conjugate_theLeast() {
        due("aba", Check.of(SIX).conjugate(5), 1);
        due("b", Check.of(SIX).conjugate(2), 1);
        due("ba", Check.of(SIX).conjugate(4), 3);
        due("bab is a turned", Check.of(EIGHT).conjugate(6), 1);
        due("aba is b turned", Check.of(EIGHT).conjugate(5), 2);
    }

    static void promise57_conjugate_noneSuch() {
        Refused.element(-2, (x, n) -> x.conjugate(n));
        Refused.noGroup(-2, x -> x.conjugate(0));
    }

    // Promise 58

    static void promise58_conjugates_itselfAlone() {
        due("0", Check.of(LONE).conjugates(0), 1);
        due("a", Check.of(LONE).conjugates(1), 1);
        due("0", Check.of(SIXTY).conjugates(0), 1);
        due("abab", Check.of(EIGHT).conjugates(7), 1);
    }

    static void promise58_conjugates_many() {
        due("a", Check.of(SIX).conjugates(1), 3);
        due("ab", Check.of(SIX).conjugates(3), 2);
        due("a", Check.of(TWENTY_FOUR).conjugates(1), 6);
        due("abc", Check.of(TWENTY_FOUR).conjugates(10), 6);
        due("59", Check.of(SIXTY).conjugates(59), 15);
    }

    static void promise58_conjugates_noneSuch() {
        Refused.element(-2, (x, n) -> x.conjugates(n));
        Refused.noGroup(-2, x -> x.conjugates(0));
    }
}
