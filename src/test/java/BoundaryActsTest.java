/** A test for each sentence with a boundary case: promises 59 to 68, what is marked, acts and images. */
public final class BoundaryActsTest {
    private static final String LONE = Refused.LONE;
    private static final String SIX = Refused.SIX;
    private static final String TWENTY_FOUR = Refused.TWENTY_FOUR;
    private static final String FREE = Refused.FREE;
    private static final String SIXTY = Refused.SIXTY;
    private static final long ALL_60 = (1L << 60) - 1;

    private BoundaryActsTest() {
    }

    public static void main(String[] args) throws IllegalAccessException {
        Named.run(BoundaryActsTest.class);
    }

    private static void due(String call, long got, long want) {
        Check.due(call, got, want);
    }

    private static ReflectionWords marked(String text, int... elements) {
        ReflectionWords x = Check.of(text);
        for (int e : elements) {
            x.mark(e);
        }
        return x;
    }

    /** Thirty acts, the marked ones being ab, ba behind them. */
    private static ReflectionWords full() {
        ReflectionWords x = marked(SIX, 3, 4);
        for (int i = 2; i < 30; i++) {
            x.mark(0);
        }
        return x;
    }

    /** What full() is must be so still. */
    private static void isFull(ReflectionWords x) {
        due("acts", x.count(5), 30);
        due("marked", x.marked(), 24);
        due("undo", x.undo(), 29);
        due("marked ahead", x.marked(), 25);
    }

    // Promise 59

    static void promise59_ideal_ofNothing() {
        due("nothing marked", Check.of(SIX).ideal(), 0);
        due("marked, and no more", marked(SIX, 5, 5).ideal(), 0);
    }

    static void promise59_ideal_itself() {
        due("0", marked(SIX, 0).ideal(), 1);
        due("a", marked(LONE, 1).ideal(), 3);
    }

    static void promise59_ideal_all() {
        due("59", marked(SIXTY, 59).ideal(), ALL_60);
        due("58 lacks 59 and its like", marked(SIXTY, 58).ideal() >> 55, 8);
    }

    static void promise59_ideal_ofAny() {
        due("a and b", marked(SIX, 1, 2).ideal(), 7);
        due("ab and a", marked(SIX, 3, 1).ideal(), 15);
    }

    static void promise59_ideal_withoutGroup() {
        Refused.noGroup(-2, x -> x.ideal());
    }

    // Promise 60

    static void promise60_peaks_ofNothing() {
        due("nothing marked", Check.of(SIX).peaks(), 0);
    }

    static void promise60_peaks_one() {
        due("0", marked(SIX, 0).peaks(), 1);
        due("59", marked(SIXTY, 59).peaks(), 1L << 59);
        due("0 and 59", marked(SIXTY, 0, 59).peaks(), 1L << 59);
    }

    static void promise60_peaks_noOtherAbove() {
        due("ab, ba, a", marked(SIX, 3, 4, 1).peaks(), 24);
        due("ab, c", marked(TWENTY_FOUR, 4, 3).peaks(), 24);
        due("ab, a", marked(SIX, 3, 1).peaks(), 8);
    }

    static void promise60_peaks_withoutGroup() {
        Refused.noGroup(-2, x -> x.peaks());
    }

    // Promise 61

    static void promise61_marked_nothing() {
        due("nothing", Check.of(SIX).marked(), 0);
    }

    static void promise61_marked_theFirstAndTheLast() {
        due("0", marked(SIXTY, 0).marked(), 1);
        due("59", marked(SIXTY, 59).marked(), 1L << 59);
        due("31, 32", marked(SIXTY, 31, 32).marked(), 3L << 31);
    }

    static void promise61_marked_withoutGroup() {
        Refused.noGroup(-2, x -> x.marked());
    }

    // Promise 62

    static void promise62_mark_orNoMore() {
        ReflectionWords x = Check.of(SIXTY);
        due("59", x.mark(59), 1);
        due("0", x.mark(0), 2);
        due("59 no more", x.mark(59), 1);
        due("marked", x.marked(), 1);
        due("0 no more", x.mark(0), 0);
        due("marked", x.marked(), 0);
        due("acts", x.count(5), 4);
    }

    static void promise62_mark_allOfAGroup() {
        ReflectionWords x = Check.of(TWENTY_FOUR);
        for (int e = 0; e < 24; e++) {
            due("mark " + e, x.mark(e), e + 1);
        }
        due("marked", x.marked(), (1L << 24) - 1);
    }

    static void promise62_mark_noneSuch() {
        Refused.element(-2, (x, n) -> x.mark(n));
        Refused.noGroup(-2, x -> x.mark(0));
    }

    static void promise62_mark_noneSuchIsNoAct() {
        ReflectionWords x = marked(SIX, 3);
        due("6", x.mark(6), -2);
        due("64", x.mark(64), -2);
        due("-1", x.mark(-1), -2);
        due("acts", x.count(5), 1);
        due("marked", x.marked(), 8);
    }

    static void promise62_mark_theThirtiethAct() {
        ReflectionWords x = Check.of(SIX);
        for (int i = 1; i < 30; i++) {
            x.thin();
        }
        due("act 30", x.mark(5), 1);
        due("act 31", x.mark(4), -5);
        due("marked", x.marked(), 32);
    }

    static void promise62_mark_refusedWith30Acts() {
        ReflectionWords x = full();
        for (int e = 0; e < 6; e++) {
            due("mark " + e, x.mark(e), -5);
        }
        isFull(x);
    }

    static void promise62_mark_againBehindUndo() {
        ReflectionWords x = full();
        x.undo();
        due("mark", x.mark(5), 4);
        due("full again", x.mark(5), -5);
        due("acts", x.count(5), 30);
    }

    // Promise 63

    static void promise63_thin_nothing() {
        ReflectionWords x = Check.of(SIX);
        due("nothing marked", x.thin(), 0);
        due("an act", x.count(5), 1);
        due("marked", x.marked(), 0);
        due("one marked", marked(SIX, 5).thin(), 0);
        due("none below another", marked(SIX, 3, 4).thin(), 0);
    }

    static void promise63_thin_allButOne() {
        ReflectionWords x = marked(SIX, 0, 1, 2, 3, 4, 5);
        due("thin", x.thin(), 5);
        due("marked", x.marked(), 32);
        due("thin again", x.thin(), 0);
        due("acts", x.count(5), 8);
    }

    static void promise63_thin_belowAnotherOneMarked() {
        ReflectionWords x = marked(TWENTY_FOUR, 0, 1, 3, 4);
        due("0, a below ab; c stays", x.thin(), 2);
        due("marked", x.marked(), 8 | 16);
        due("0 below 59", marked(SIXTY, 59, 0).thin(), 1);
    }

    static void promise63_thin_withoutGroup() {
        Refused.noGroup(-2, x -> x.thin());
        ReflectionWords x = new ReflectionWords();
        x.thin();
        due("no act", x.count(5), 0);
    }

    static void promise63_thin_theThirtiethAct() {
        ReflectionWords x = marked(SIX, 1, 3);
        for (int i = 2; i < 29; i++) {
            x.shift(0);
            x.shift(0);
            x.undo();
        }
        due("acts", x.count(5), 29);
        due("act 30", x.thin() >= 0 ? 1 : 0, 1);
        due("act 31", x.thin(), -5);
    }

    static void promise63_thin_refusedWith30Acts() {
        ReflectionWords x = marked(SIX, 1, 3);
        for (int i = 2; i < 30; i++) {
            x.mark(0);
        }
        due("thin", x.thin(), -5);
        due("marked", x.marked(), 10);
        due("acts", x.count(5), 30);
        due("undo", x.undo(), 29);
        due("thin then", x.thin(), 2);
    }

    // Promise 64

    static void promise64_shift_nothing() {
        ReflectionWords x = Check.of(SIX);
        due("nothing marked", x.shift(1), 0);
        due("an act", x.count(5), 1);
        due("marked", x.marked(), 0);
    }

    static void promise64_shift_allAtOnce() {
        ReflectionWords x = marked(SIX, 0, 1);
        due("0 and a by a", x.shift(0), 2);
        due("a and 0", x.marked(), 3);
        due("by b", x.shift(1), 2);
        due("b and ab", x.marked(), 12);
    }

    static void promise64_shift_theWholeGroup() {
        ReflectionWords x = marked(SIX, 0, 1, 2, 3, 4, 5);
        due("by a", x.shift(0), 6);
        due("marked", x.marked(), 63);
    }

    static void promise64_shift_downFromTheLast() {
        ReflectionWords x = marked(SIXTY, 59);
        for (int s = 0; s < 4; s++) {
            due("by " + s, x.shift(s), 1);
        }
        due("by 4", x.shift(4), -2);
        due("acts", x.count(5), 5);
        due("aba cdcdc a b c d", x.length(Long.numberOfTrailingZeros(x.marked())), 4);
    }

    static void promise64_shift_noSuchLetter() {
        Refused.letter(-2, (x, n) -> x.shift(n));
        Refused.noGroup(-2, x -> x.shift(0));
    }

    static void promise64_shift_noSuchLetterIsNoAct() {
        ReflectionWords x = marked(SIX, 3);
        due("2", x.shift(2), -2);
        due("-1", x.shift(-1), -2);
        due("acts", x.count(5), 1);
        due("marked", x.marked(), 8);
        due("undo", x.undo(), 0);
    }

    static void promise64_shift_theThirtiethAct() {
        ReflectionWords x = Check.of(SIX);
        for (int i = 1; i < 30; i++) {
            x.mark(3);
        }
        due("act 30", x.shift(0), 1);
        due("act 31", x.shift(0), -5);
        due("marked", x.marked(), 32);
    }

    static void promise64_shift_refusedWith30Acts() {
        ReflectionWords x = full();
        due("by a", x.shift(0), -5);
        due("by b", x.shift(1), -5);
        isFull(x);
    }

    // Promise 65

    static void promise65_image_0To2() {
        for (int k = 0; k < 3; k++) {
            ReflectionWords x = marked(SIX, 3);
            due("image " + k, x.image(k), 0);
            x.mark(1);
            for (int other = 0; other < 3; other++) {
                due("back " + other, x.back(other), other == k ? 0 : -6);
            }
            due("marked", x.marked(), 8);
        }
    }

    static void promise65_image_eachItsOwn() {
        ReflectionWords x = Check.of(SIX);
        for (int k = 0; k < 3; k++) {
            x.mark(k + 1);
            due("image " + k, x.image(k), 0);
        }
        long[] want = {2, 6, 14};
        for (int k = 2; k >= 0; k--) {
            due("back " + k, x.back(k), 0);
            due("marked", x.marked(), want[k]);
            due("acts", x.count(5), k + 1);
        }
    }

    static void promise65_image_ofNothing() {
        ReflectionWords x = Check.of(SIX);
        due("image", x.image(0), 0);
        x.mark(3);
        due("back", x.back(0), 0);
        due("marked", x.marked(), 0);
        due("acts", x.count(5), 0);
        due("undo", x.undo(), -5);
    }

    static void promise65_image_isNoAct() {
        ReflectionWords x = full();
        due("image", x.image(0), 0);
        isFull(x);
    }

    static void promise65_image_inPlaceOfAnother() {
        ReflectionWords x = marked(SIX, 3);
        x.image(1);
        x.mark(3);
        x.mark(5);
        due("image", x.image(1), 0);
        x.anew();
        due("back", x.back(1), 0);
        due("marked", x.marked(), 32);
        due("acts", x.count(5), 3);
    }

    static void promise65_image_stays() {
        ReflectionWords x = marked(SIX, 3);
        x.image(2);
        x.mark(1);
        x.undo();
        x.undo();
        x.mark(5);
        x.thin();
        due("back", x.back(2), 0);
        due("marked", x.marked(), 8);
        due("acts", x.count(5), 1);
        due("undo", x.undo(), 0);
        due("marked", x.marked(), 0);
        due("back again", x.back(2), 0);
        due("marked", x.marked(), 8);
    }

    static void promise65_image_noneSuch() {
        Refused.image(-2, (x, n) -> x.image(n));
        for (int k = 0; k < 3; k++) {
            int which = k;
            Refused.noGroup(-2, x -> x.image(which));
        }
        ReflectionWords x = marked(SIX, 3);
        x.image(3);
        x.image(-1);
        for (int k = 0; k < 3; k++) {
            due("nothing is kept in " + k, x.back(k), -6);
        }
    }

    static void promise65_image_withoutGroupKeepsNothing() {
        ReflectionWords x = new ReflectionWords();
        x.image(0);
        Check.group(x, SIX);
        due("back", x.back(0), -6);
    }

    // Promise 66

    static void promise66_back_all30Acts() {
        ReflectionWords x = Check.of(FREE);
        for (int e = 0; e < 30; e++) {
            x.mark(e);
        }
        x.image(0);
        x.anew();
        x.mark(31);
        x.shift(0);
        due("back", x.back(0), 0);
        due("acts", x.count(5), 30);
        due("full", x.mark(0), -5);
        for (int left = 29; left >= 0; left--) {
            due("undo", x.undo(), left);
            due("marked", x.marked(), (1L << left) - 1);
        }
        due("none is left", x.undo(), -5);
    }

    static void promise66_back_fewerActs() {
        ReflectionWords x = marked(SIX, 1);
        x.image(0);
        for (int i = 1; i < 30; i++) {
            x.mark(2);
        }
        due("full", x.mark(3), -5);
        due("back", x.back(0), 0);
        due("acts", x.count(5), 1);
        due("mark", x.mark(3), 2);
        due("marked", x.marked(), 10);
    }

    static void promise66_back_twice() {
        ReflectionWords x = marked(SIX, 1, 2);
        x.image(2);
        due("back", x.back(2), 0);
        due("back", x.back(2), 0);
        due("marked", x.marked(), 6);
        due("acts", x.count(5), 2);
    }

    static void promise66_back_itHasNothing() {
        for (int k = 0; k < 3; k++) {
            due("back " + k, Check.of(SIX).back(k), -6);
        }
        ReflectionWords x = marked(SIX, 1);
        due("back", x.back(0), -6);
        due("marked", x.marked(), 2);
        due("acts", x.count(5), 1);
    }

    static void promise66_back_nothingOfThisGroup() {
        ReflectionWords x = marked(SIX, 1);
        for (int k = 0; k < 3; k++) {
            x.image(k);
        }
        Check.group(x, TWENTY_FOUR);
        for (int k = 0; k < 3; k++) {
            due("back " + k, x.back(k), -6);
        }
        Check.group(x, "");
        Check.group(x, SIX);
        due("nor of the same text told anew", x.back(0), -6);
        due("marked", x.marked(), 0);
    }

    static void promise66_back_noneSuch() {
        Refused.image(-2, (x, n) -> x.back(n));
        for (int k = 0; k < 3; k++) {
            int which = k;
            Refused.noGroup(-2, x -> x.back(which));
        }
        Refused.noGroup(-2, x -> x.back(3));
    }

    // Promise 67

    static void promise67_undo_downTo0() {
        ReflectionWords x = marked(SIX, 1, 3);
        x.thin();
        x.shift(0);
        long[] want = {8, 10, 2, 0};
        for (int i = 0; i < 4; i++) {
            due("undo", x.undo(), 3 - i);
            due("marked", x.marked(), want[i]);
        }
    }

    static void promise67_undo_thereIsNone() {
        due("new group", Check.of(SIX).undo(), -5);
        ReflectionWords x = marked(SIX, 1);
        due("the one act", x.undo(), 0);
        due("none", x.undo(), -5);
        due("none", x.undo(), -5);
        due("acts", x.count(5), 0);
        due("marked", x.marked(), 0);
    }

    static void promise67_undo_anActThatChangedNothing() {
        ReflectionWords x = marked(SIX, 1);
        x.thin();
        due("undo", x.undo(), 1);
        due("marked", x.marked(), 2);
        due("undo", x.undo(), 0);
        due("marked", x.marked(), 0);
    }

    static void promise67_undo_ofAll30() {
        ReflectionWords x = full();
        for (int left = 29; left >= 2; left--) {
            due("undo", x.undo(), left);
            due("marked", x.marked(), left % 2 == 0 ? 24 : 25);
        }
        due("undo", x.undo(), 1);
        due("marked", x.marked(), 8);
    }

    static void promise67_undo_imagesAreNoActs() {
        ReflectionWords x = marked(SIX, 1, 2);
        x.image(0);
        due("undo", x.undo(), 1);
        due("marked", x.marked(), 2);
    }

    static void promise67_undo_withoutGroup() {
        Refused.noGroup(-2, x -> x.undo());
    }

    // Promise 68

    static void promise68_anew_thereWereNone() {
        ReflectionWords x = Check.of(SIX);
        due("anew", x.anew(), 0);
        due("acts", x.count(5), 0);
        due("marked", x.marked(), 0);
    }

    static void promise68_anew_all() {
        ReflectionWords x = full();
        due("anew", x.anew(), 30);
        due("acts", x.count(5), 0);
        due("marked", x.marked(), 0);
        due("undo", x.undo(), -5);
        due("anew again", x.anew(), 0);
        due("mark", x.mark(3), 1);
    }

    static void promise68_anew_behindBack() {
        ReflectionWords x = marked(SIX, 1, 2);
        x.image(0);
        x.mark(3);
        x.back(0);
        due("anew", x.anew(), 2);
        due("marked", x.marked(), 0);
        due("the image stays", x.back(0), 0);
        due("marked", x.marked(), 6);
    }

    static void promise68_anew_theGroupStays() {
        ReflectionWords x = marked(SIX, 1, 2);
        x.anew();
        due("elements", x.count(1), 6);
        due("lines", x.count(4), 2);
    }

    static void promise68_anew_withoutGroup() {
        Refused.noGroup(-2, x -> x.anew());
    }
}
