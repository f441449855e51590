/** Each promise by hand: ordinary inputs, the edges that the document names, wrong inputs. */
public final class PromiseTest {
    private static final int MIN = Integer.MIN_VALUE;
    private static final int MAX = Integer.MAX_VALUE;

    /** 0, a, b, ab, ba, aba. */
    private static final String SIX = "group 2;bond a b 3;";
    /** 0, a, b, c, ab, ac, ba, bc, cb, aba, .. (the turns of four things). */
    private static final String TWENTY_FOUR = "group 3;bond a b 3;bond b c 3;";
    private static final String EIGHT = "group 2;bond a b 4;";
    private static final String LONE = "group 1;";

    private PromiseTest() {
    }

    private static void due(String call, long got, long want) {
        Check.due(call, got, want);
    }

    public static void main(String[] args) {
        newObject();
        feeding();
        ending();
        groups();
        faultsOfGroups();
        faultsOfElements();
        counts();
        bondsAndLetters();
        elements();
        spellings();
        productsOfElements();
        descentsAndReflections();
        belowAndCovers();
        intervals();
        polynomials();
        polynomialsOfAll();
        firstOfAGroup();
        cells();
        productsOfC();
        setsOfLetters();
        insideAndHecke();
        weakOrders();
        movesOfRows();
        mirrors();
        pathsAndSides();
        conjugates();
        marking();
        thinningAndShifting();
        images();
        undoing();
        fullOfActs();
        Check.finish();
    }

    private static void newObject() {
        ReflectionWords x = new ReflectionWords();
        due("NONE", ReflectionWords.NONE, -1);
        for (int what = 0; what <= 6; what++) {
            due("new count " + what, x.count(what), 0);
        }
        due("new fault 0", x.fault(0), 0);
        due("new fault 1", x.fault(1), -1);
        due("new length", x.length(0), -2);
        due("new layers", x.layers(0), -2);
        due("new longest", x.longest(0), -2);
        due("new cosets", x.cosets(0), -2);
        due("new sided", x.sided(0, 0), -2);
        due("new cellMany", x.cellMany(0), -2);
        due("new reflection", x.reflection(0), -2);
        due("new reflection", x.reflection(-1), -2);
        due("new crookedPair", x.crookedPair(0), -2);
        due("new tallest", x.tallest(), -2);
        due("new crooked", x.crooked(), -2);
        due("new mark", x.mark(0), -2);
        due("new undo", x.undo(), -2);
        due("new anew", x.anew(), -2);
        due("new image", x.image(0), -2);
        due("new back", x.back(0), -2);
        due("new thin", x.thin(), -2);
        due("new shift", x.shift(0), -2);
        due("new ideal", x.ideal(), -2);
        due("new peaks", x.peaks(), -2);
        due("new marked", x.marked(), -2);
    }

    private static void feeding() {
        ReflectionWords x = new ReflectionWords();
        for (int i = 1; i <= 15; i++) {
            due("feed " + i, x.feed(0x20202020, 0x0a0a0a0a, 0x20202020, 0x20202020, 0x20202020), 20 * i);
        }
        due("feed beyond", x.feed(1, 2, 3, 4, 5), -1);
        due("bytes", x.count(6), 300);
        due("end 281", x.end(281), 281);
        due("feed beyond by one", x.feed(1, 2, 3, 4, 5), -1);
        due("bytes", x.count(6), 281);
        due("end 280", x.end(280), 280);
        due("feed to the brim", x.feed(0x67726f75, 0x70203220, 0x3b202020, 0x20202020, 0x2020200a), 300);
        due("group at the tape's end", x.group(), 4);
        due("tape is empty", x.count(6), 0);
        due("order of bytes", x.feed(0x67726f75, 0x7020313b, 0, 0, 0), 20);
        due("end 8", x.end(8), 8);
        due("group 1", x.group(), 2);
        x.feed(0x67726f75, 0x7020313b, 0, 0, -1);
        due("bytes that are none", x.group(), -4);
        due("place", x.fault(1), 8);
    }

    private static void ending() {
        ReflectionWords x = new ReflectionWords();
        due("end 0", x.end(0), 0);
        due("end 1 of none", x.end(1), -1);
        x.feed(0, 0, 0, 0, 0);
        due("end 21", x.end(21), -1);
        due("end -1", x.end(-1), -1);
        due("end MIN", x.end(MIN), -1);
        due("end MAX", x.end(MAX), -1);
        due("bytes stay", x.count(6), 20);
        due("end 20", x.end(20), 20);
        due("end 7", x.end(7), 7);
        due("end 8 then", x.end(8), -1);
        due("bytes", x.count(6), 7);
        due("feed behind", x.feed(0, 0, 0, 0, 0), 27);
    }

    private static void groups() {
        ReflectionWords x = new ReflectionWords();
        due("group", Check.group(x, TWENTY_FOUR), 24);
        due("group of 48", Check.group(x, "group 3;bond b a 4;bond b c 3;"), 48);
        due("group of 60", Check.group(x, "group 4;bond a b 3;bond c d 5;"), 60);
        due("group of 56", Check.group(x, "group 4;bond a d 7;"), 56);
        due("group of 48", Check.group(x, "group 3;bond a c 12;"), 48);
        due("bonds 3", Check.group(x, "group 5;bond e d 3;"), 48);
        due("mark", x.mark(5), 1);
        due("image", x.image(1), 0);
        due("more than 60", Check.group(x, "group 4;bond a b 3;bond c d 6;"), -5);
        due("fault without", x.fault(0), 0);
        due("place without", x.fault(1), -1);
        due("tape is empty", x.count(6), 0);
        due("64", Check.group(x, "group 4;bond a b 4;bond c d 4;"), -5);
        due("no end", Check.group(x, "group 3;bond a b 3;bond b c 3;bond c a 3;"), -5);
        due("no end, one bond told large", Check.group(x, "group 5;bond a b 12;bond b c 12;bond c a 12;"), -5);
        due("120", Check.group(x, "group 3;bond a b 5;bond b c 3;"), -5);
        due("rank stays", x.count(0), 5);
        due("elements stay", x.count(1), 48);
        due("lines stay", x.count(4), 2);
        due("bond stays", x.bond(3, 4), 3);
        due("marked stays", x.marked(), 32);
        due("acts stay", x.count(5), 1);
        due("fault", Check.group(x, "group 2"), -4);
        due("marked stays", x.marked(), 32);
        due("products stay", x.times(5, 4), x.times(x.times(4, 5), x.times(4, 5)));
        due("anew", x.anew(), 1);
        due("image stays", x.back(1), 0);
        due("marked", x.marked(), 32);
        due("the same anew", Check.group(x, "group 5;bond e d 3;"), 48);
        due("nothing marked", x.marked(), 0);
        due("no acts", x.count(5), 0);
        due("no image", x.back(1), -6);
        due("none", Check.group(x, " \n "), 0);
        due("no elements", x.count(1), 0);
        due("no rank", x.count(0), 0);
        due("no length", x.count(2), 0);
        due("no reflections", x.count(3), 0);
        due("no lines", x.count(4), 0);
        due("none to ask", x.length(0), -2);
        due("none to ask", x.bond(0, 0), -2);
        due("none to ask", x.marked(), -2);
    }

    private static void faulty(String text, int fault, int place) {
        ReflectionWords x = new ReflectionWords();
        due(text, Check.group(x, text), -4);
        due(text + " fault", x.fault(0), fault);
        due(text + " place", x.fault(1), place);
        due(text + " tape", x.count(6), 0);
        due(text + " elements", x.count(1), 0);
    }

    private static void faultsOfGroups() {
        faulty(";", 1, 0);
        faulty("7", 1, 0);
        faulty("  grou 2;", 1, 2);
        faulty("groups 2;", 1, 0);
        faulty("Group 2;", 1, 0);
        faulty("bond a b 3;", 1, 0);
        faulty("group", 1, 5);
        faulty("group  \n", 1, 8);
        faulty("group ;", 1, 6);
        faulty("group a;", 1, 6);
        faulty("group 0;", 2, 6);
        faulty("group 6;", 2, 6);
        faulty("group 6", 2, 6);
        faulty("group 4294967298;", 2, 6);
        faulty("group 18446744073709551618;", 2, 6);
        faulty("group 2", 1, 7);
        faulty("group 2 2;", 1, 8);
        faulty("group 2.;", 1, 7);
        faulty("group 2;;", 1, 8);
        faulty("group 2;group 2;", 1, 8);
        faulty("group 2;bond", 1, 12);
        faulty("group 2;bon a b 3;", 1, 8);
        faulty("group 2;bonds a b 3;", 1, 8);
        faulty("group 2;bond 1 b 3;", 1, 13);
        faulty("group 2;bond ab 3;", 1, 13);
        faulty("group 2;bond zz b 3;", 1, 13);
        faulty("group 2;bond c b 3;", 2, 13);
        faulty("group 2;bond a", 1, 14);
        faulty("group 2;bond a 3;", 1, 15);
        faulty("group 2;bond a z 3;", 2, 15);
        faulty("group 2;bond a a 3;", 2, 15);
        faulty("group 2;bond a bb 3;", 1, 15);
        faulty("group 2;bond a b;", 1, 16);
        faulty("group 2;bond a b c;", 1, 17);
        faulty("group 2;bond a b 2;", 2, 17);
        faulty("group 2;bond a b 13;", 2, 17);
        faulty("group 2;bond a b 3", 1, 18);
        faulty("group 2;bond a b 3 3;", 1, 19);
        faulty("group 3;bond a b 3;bond b a 3;", 2, 26);
        faulty("group 3;bond a b 3;bond a b 4;", 2, 26);
        faulty("group 3;bond a b 3;bond a b @;", 2, 26);
        faulty("group 9;@", 2, 6);
        faulty("@", 1, 0);
        faulty("" + (char) 200, 1, 0);
        faulty("\t", 1, 0);
        faulty("\0", 1, 0);
        ReflectionWords x = new ReflectionWords();
        due("blanks are nothing", Check.group(x, "\n group2 ;bond\na b012; bond b c 3 ;"), -4);
        due("letter c is none of two", x.fault(1), 30);
        due("blanks are nothing", Check.group(x, "\ngroup02\n;bond\na b0012;"), 24);
        due("fault without", x.fault(0), 0);
        due("place without", x.fault(1), -1);
        due("fault 2", x.fault(2), -1);
        due("fault -1", x.fault(-1), -1);
        due("fault MAX", x.fault(MAX), -1);
    }

    private static void faultsOfElements() {
        ReflectionWords x = Check.of(SIX);
        due("a fault ahead", Check.group(x, "group 2;bond"), -4);
        due("no word", Check.element(x, "ab 3"), -4);
        due("fault", x.fault(0), 1);
        due("place", x.fault(1), 3);
        due("tape", x.count(6), 0);
        due("sign", Check.element(x, "ab;"), -4);
        due("place", x.fault(1), 2);
        due("no token", Check.element(x, "\n a B"), -4);
        due("fault", x.fault(0), 1);
        due("place", x.fault(1), 4);
        due("letter that is none", Check.element(x, "ab abac"), -4);
        due("fault", x.fault(0), 2);
        due("place", x.fault(1), 3);
        due("the first one", Check.element(x, "a z 3"), -4);
        due("fault", x.fault(0), 2);
        due("place", x.fault(1), 2);
        due("the first one", Check.element(x, "a 3 z"), -4);
        due("fault", x.fault(0), 1);
        due("place", x.fault(1), 2);
        due("without", Check.element(x, "ba"), 4);
        due("fault", x.fault(0), 0);
        due("place", x.fault(1), -1);
        ReflectionWords none = new ReflectionWords();
        due("fault", Check.group(none, "group 2;@"), -4);
        due("no group", Check.element(none, "3"), -2);
        due("fault stays", none.fault(0), 1);
        due("place stays", none.fault(1), 8);
        due("tape is empty", none.count(6), 0);
    }

    private static void counts() {
        ReflectionWords x = Check.of(TWENTY_FOUR);
        due("rank", x.count(0), 3);
        due("elements", x.count(1), 24);
        due("longest", x.count(2), 6);
        due("reflections", x.count(3), 6);
        due("lines", x.count(4), 3);
        due("acts", x.count(5), 0);
        x.mark(2);
        x.thin();
        due("acts", x.count(5), 2);
        x.feed(0, 0, 0, 0, 0);
        due("bytes", x.count(6), 20);
        due("count 7", x.count(7), -1);
        due("count -1", x.count(-1), -1);
        due("count MIN", x.count(MIN), -1);
        due("longest of 26 rows", Check.of("group 3;bond b c 12;").count(2), 13);
    }

    private static void bondsAndLetters() {
        ReflectionWords x = Check.of("group 3;bond c a 7;");
        due("bond a c", x.bond(0, 2), 7);
        due("bond c a", x.bond(2, 0), 7);
        due("bond a b", x.bond(0, 1), 2);
        due("bond b b", x.bond(1, 1), 1);
        due("bond a d", x.bond(0, 3), -2);
        due("bond d a", x.bond(3, 0), -2);
        due("bond d d", x.bond(3, 3), -2);
        due("bond -1", x.bond(-1, 0), -2);
        due("bond , -1", x.bond(0, -1), -2);
        ReflectionWords y = Check.of(TWENTY_FOUR);
        due("length 0", y.length(0), 0);
        due("length 5", y.length(5), 2);
        due("length 23", y.length(23), 6);
        due("length 24", y.length(24), -2);
        due("length -1", y.length(-1), -2);
        int[] word = {1, 0, 2, 1};
        for (int i = 0; i < 4; i++) {
            due("letter 18 " + i, y.letter(18, i), word[i]);
        }
        due("letter 18 4", y.letter(18, 4), -1);
        due("letter 18 MAX", y.letter(18, MAX), -1);
        due("letter 18 -1", y.letter(18, -1), -2);
        due("letter 0 0", y.letter(0, 0), -1);
        due("letter 24 0", y.letter(24, 0), -2);
        due("letter 24 -1", y.letter(-1, -1), -2);
    }

    private static void elements() {
        ReflectionWords x = Check.of(TWENTY_FOUR);
        due("nothing", Check.element(x, ""), 0);
        due("blanks", Check.element(x, " \n  "), 0);
        due("ca", Check.element(x, "ca"), 5);
        due("c a", Check.element(x, " c\na "), 5);
        due("abab", Check.element(x, "abab"), 6);
        due("aa bb", Check.element(x, "aa bb cc"), 0);
        due("bcab", Check.element(x, "bcab"), 18);
        due("the longest", Check.element(x, "cbacbc"), 23);
        StringBuilder row = new StringBuilder();
        for (int i = 0; i < 100; i++) {
            row.append("abc");
        }
        due("300 letters: abc is four by turns", Check.element(x, row.toString()), 0);
    }

    private static void spellings() {
        ReflectionWords x = Check.of(TWENTY_FOUR);
        due("rows of the longest", x.spellings(23), 16);
        due("rows of ac", x.spellings(5), 2);
        due("rows of 0", x.spellings(0), 1);
        due("rows of 24", x.spellings(24), -2);
        due("rows of -1", x.spellings(-1), -2);
        due("ac", x.spelled(5, 0, 0), 0);
        due("ac", x.spelled(5, 0, 1), 2);
        due("ca", x.spelled(5, 1, 0), 2);
        due("ca", x.spelled(5, 1, 1), 0);
        due("no third row", x.spelled(5, 2, 0), -1);
        due("no third letter", x.spelled(5, 1, 2), -1);
        due("no letter", x.spelled(0, 0, 0), -1);
        due("k below 0", x.spelled(5, -1, 0), -2);
        due("i below 0", x.spelled(5, 0, -1), -2);
        due("i below 0, no such row", x.spelled(5, 9, -1), -2);
        due("no such element", x.spelled(24, 0, 0), -2);
        due("far row", x.spelled(5, MAX, MAX), -1);
        int[] last = {2, 1, 2, 0, 1, 2};
        for (int i = 0; i < 6; i++) {
            due("the last row " + i, x.spelled(23, 15, i), last[i]);
        }
        due("240 rows", Check.of("group 5;bond b d 3;").spellings(47), 240);
        due("224 rows", Check.of("group 4;bond a c 3;bond b d 5;").spellings(59), 224);
    }

    private static void productsOfElements() {
        ReflectionWords x = Check.of(EIGHT);
        due("ab ab", x.times(3, 3), 7);
        due("a ba", x.times(1, 4), 5);
        due("aba b", x.times(5, 2), 7);
        due("0 x", x.times(0, 6), 6);
        due("x 0", x.times(6, 0), 6);
        due("x 8", x.times(6, 8), -2);
        due("8 x", x.times(8, 6), -2);
        due("-1 x", x.times(-1, 0), -2);
        due("inverse ab", x.inverse(3), 4);
        due("inverse aba", x.inverse(5), 5);
        due("inverse 0", x.inverse(0), 0);
        due("inverse 8", x.inverse(8), -2);
        due("inverse -1", x.inverse(-1), -2);
        due("order ab", x.order(3), 4);
        due("order abab", x.order(7), 2);
        due("order a", x.order(1), 2);
        due("order 0", x.order(0), 1);
        due("order 8", x.order(8), -2);
        due("order MIN", x.order(MIN), -2);
        ReflectionWords y = Check.of("group 4;bond a b 3;bond c d 5;");
        due("order abcd", y.order(Check.element(y, "abcd")), 15);
    }

    private static void descentsAndReflections() {
        ReflectionWords x = Check.of(TWENTY_FOUR);
        due("bacb ahead", x.descents(18, 0), 2);
        due("acb ahead", x.descents(11, 0), 5);
        due("acb behind", x.descents(11, 1), 2);
        due("bac behind", x.descents(12, 1), 5);
        due("longest", x.descents(23, 0), 7);
        due("0", x.descents(0, 1), 0);
        due("side 2", x.descents(0, 2), -2);
        due("side -1", x.descents(0, -1), -2);
        due("24", x.descents(24, 0), -2);
        int[] all = {1, 2, 3, 9, 13, 21};
        for (int i = 0; i < 6; i++) {
            due("reflection " + i, x.reflection(i), all[i]);
        }
        due("reflection 6", x.reflection(6), -1);
        due("reflection MAX", x.reflection(MAX), -1);
        due("reflection -1", x.reflection(-1), -2);
    }

    private static void belowAndCovers() {
        ReflectionWords x = Check.of(TWENTY_FOUR);
        due("b below bacb", x.below(2, 18), 1);
        due("bb taken is 0", x.below(0, 18), 1);
        due("cb below bacb", x.below(8, 18), 1);
        due("bab below bacb", x.below(9, 18), 1);
        due("abc below bacb", x.below(10, 18), 0);
        due("itself", x.below(18, 18), 1);
        due("not upwards", x.below(18, 2), 0);
        due("below 24", x.below(0, 24), -2);
        due("24 below", x.below(24, 0), -2);
        due("-1 below", x.below(-1, 0), -2);
        due("bacb covers bab, acb, bac, bcb", x.covers(18, 0), 1L << 9 | 1L << 11 | 1L << 12 | 1L << 13);
        due("what covers bacb: abacb, abcba is none", x.covers(18, 1), 1L << 20 | 1L << 22);
        due("0 covers", x.covers(0, 0), 0);
        due("what covers 0", x.covers(0, 1), 2 | 4 | 8);
        due("what covers the longest", x.covers(23, 1), 0);
        due("the longest covers", x.covers(23, 0), 7L << 20);
        due("side 2", x.covers(0, 2), -2);
        due("side -1", x.covers(0, -1), -2);
        due("covers 24", x.covers(24, 0), -2);
    }

    private static void intervals() {
        ReflectionWords x = Check.of(SIX);
        due("0 .. aba", x.interval(0, 5), 63);
        due("a .. ba", x.interval(1, 4), 18);
        due("itself", x.interval(3, 3), 8);
        due("not below", x.interval(1, 2), 0);
        due("downwards", x.interval(5, 0), 0);
        due("6", x.interval(0, 6), -2);
        due("-1", x.interval(-1, 0), -2);
        due("layer 2", x.layer(0, 5, 2), 2);
        due("layer 3", x.layer(0, 5, 3), 1);
        due("layer 1 of two", x.layer(1, 5, 1), 2);
        due("layer 4", x.layer(0, 5, 4), 0);
        due("layer of none", x.layer(1, 2, 0), 0);
        due("layer -1", x.layer(0, 5, -1), -2);
        due("layer MAX", x.layer(2, 5, MAX), 0);
        due("layer of 6", x.layer(6, 5, 0), -2);
        due("chains 0 aba", x.chains(0, 5), 4);
        due("chains itself", x.chains(4, 4), 1);
        due("chains ab ba", x.chains(3, 4), 0);
        due("chains downwards", x.chains(5, 0), 0);
        due("chains 6", x.chains(0, 6), -2);
        due("chains -1", x.chains(-1, 5), -2);
        due("layers 0", x.layers(0), 1);
        due("layers 1", x.layers(1), 2);
        due("layers 3", x.layers(3), 1);
        due("layers 4", x.layers(4), 0);
        due("layers MAX", x.layers(MAX), 0);
        due("layers -1", x.layers(-1), -2);
        due("euler 0 aba", x.euler(0, 5), 0);
        due("euler a a", x.euler(1, 1), -1);
        due("euler ab ab", x.euler(3, 3), 1);
        due("euler of none", x.euler(3, 4), 0);
        due("euler 6", x.euler(6, 0), -2000);
        due("euler -1", x.euler(0, -1), -2000);
    }

    private static void polynomials() {
        ReflectionWords x = Check.of(TWENTY_FOUR);
        int[] r = {1, -3, 4, -3, 1, 0};
        for (int k = 0; k < r.length; k++) {
            due("r 0 bacb " + k, x.r(0, 18, k), r[k]);
        }
        due("r b bacb", x.r(2, 18, 0), -1);
        due("r of the longest, highest", x.r(0, 23, 6), 1);
        due("r beyond", x.r(0, 23, 7), 0);
        due("r far beyond", x.r(0, 23, MAX), 0);
        due("r itself", x.r(9, 9, 0), 1);
        due("r not below", x.r(10, 18, 0), 0);
        due("r upside down", x.r(23, 0, 0), 0);
        due("r k -1", x.r(0, 0, -1), -1000000);
        due("r 24", x.r(0, 24, 0), -1000000);
        due("r -1", x.r(-1, 0, 0), -1000000);
        due("p b bacb 0", x.p(2, 18, 0), 1);
        due("p b bacb 1", x.p(2, 18, 1), 1);
        due("p b bacb 2", x.p(2, 18, 2), 0);
        due("p ac abcba 1", x.p(5, 21, 1), 1);
        due("p 0 longest 1", x.p(0, 23, 1), 0);
        due("p not below", x.p(23, 0, 0), 0);
        due("p itself", x.p(7, 7, 0), 1);
        due("p MAX", x.p(7, 7, MAX), 0);
        due("p k -1", x.p(7, 7, -1), -1000000);
        due("p 24", x.p(24, 7, 0), -1000000);
        due("degree b bacb", x.degree(2, 18), 1);
        due("degree 0 longest", x.degree(0, 23), 0);
        due("degree not below", x.degree(1, 2), -1);
        due("degree 24", x.degree(1, 24), -2);
        due("mu b bacb", x.mu(2, 18), 1);
        due("mu bacb b", x.mu(18, 2), 0);
        due("mu 0 bacb", x.mu(0, 18), 0);
        due("mu 0 a", x.mu(0, 1), 1);
        due("mu 0 longest", x.mu(0, 22), 0);
        due("mu itself", x.mu(3, 3), 0);
        due("mu 24", x.mu(24, 3), -2);
        due("mu -1", x.mu(3, -1), -2);
        due("at 3", x.at(2, 18, 3), 4);
        due("at 0", x.at(2, 18, 0), 1);
        due("at -3", x.at(2, 18, -3), -2);
        due("at of none", x.at(18, 2, 3), 0);
        due("at 4", x.at(2, 18, 4), -1000000000);
        due("at -4", x.at(2, 18, -4), -1000000000);
        due("at 24", x.at(2, 24, 1), -1000000000);
        int low = x.times(23, 18);
        int high = x.times(23, 2);
        due("q by the other end 0", x.q(low, high, 0), 1);
        due("q by the other end 1", x.q(low, high, 1), 1);
        due("q by the other end 2", x.q(low, high, 2), 0);
        due("q b bacb 1: p ac abcba", x.q(2, 18, 1), 1);
        due("q 0 bacb 1: p ac longest", x.q(0, 18, 1), 0);
        due("q itself", x.q(4, 4, 0), 1);
        due("q not below", x.q(5, 1, 0), 0);
        due("q MAX", x.q(4, 4, MAX), 0);
        due("q -1", x.q(4, 4, -1), -1000000);
        due("q 24", x.q(4, 24, 0), -1000000);
    }

    private static void polynomialsOfAll() {
        ReflectionWords x = Check.of(TWENTY_FOUR);
        int smooth = 0;
        for (int e = 0; e < 24; e++) {
            smooth += x.smooth(e);
        }
        due("all but two are smooth", smooth, 22);
        due("smooth bacb", x.smooth(18), 0);
        due("smooth abcba", x.smooth(21), 0);
        due("smooth 24", x.smooth(24), -2);
        due("smooth -1", x.smooth(-1), -2);
        due("tallest", x.tallest(), 1);
        due("crooked", x.crooked(), 6);
        int[] pairs = {18, 21, 121, 218, 321, 521};
        for (int i = 0; i < pairs.length; i++) {
            due("pair " + i, x.crookedPair(i), pairs[i]);
        }
        due("no pair", x.crookedPair(6), -1);
        due("no pair", x.crookedPair(MAX), -1);
        due("pair -1", x.crookedPair(-1), -2);
        due("none crooked", Check.of(EIGHT).crooked(), 0);
        due("none crooked", Check.of(LONE).tallest(), 1);
    }

    /** Each asked first of a group that came in place of another one: nothing may be left of that. */
    private static void firstOfAGroup() {
        ReflectionWords x = new ReflectionWords();
        for (int n = 0; n < 2; n++) {
            due("p", next(x).p(2, 18, 1), 1);
            due("degree", next(x).degree(2, 18), 1);
            due("mu", next(x).mu(2, 18), 1);
            due("at", next(x).at(2, 18, 2), 3);
            due("q", next(x).q(2, 18, 1), 1);
            due("smooth", next(x).smooth(18), 0);
            due("tallest", next(x).tallest(), 1);
            due("crooked", next(x).crooked(), 6);
            due("crookedPair", next(x).crookedPair(3), 218);
            due("cell", next(x).cell(23, 0), 23);
            due("cellOf", next(x).cellOf(23, 2), 1L << 23);
            due("cellMany", next(x).cellMany(2), 5);
            due("under", next(x).under(10, 1, 1), 1);
            due("under", next(x).under(23, 0, 1), 1);
            due("product", next(x).product(0, 6, 1), 1);
            due("pBy", next(x).pBy(0, 2, 18, 1), 1);
            due("r", next(x).r(0, 18, 1), -3);
            due("hecke", next(x).hecke(1, 1, 0, 1), 1);
            due("moves", next(x).moves(9, 0, 1), 1);
        }
    }

    private static ReflectionWords next(ReflectionWords x) {
        Check.group(x, "group 3;bond a b 12;");
        x.cellMany(2);
        x.moves(23, 0, 1);
        Check.group(x, TWENTY_FOUR);
        return x;
    }

    private static void cells() {
        ReflectionWords x = Check.of(EIGHT);
        due("left cell of a: a, ba, aba", x.cellOf(1, 0), 2 | 16 | 32);
        due("right cell of a: a, ab, aba", x.cellOf(1, 1), 2 | 8 | 32);
        due("both", x.cellOf(1, 2), 126);
        due("least of bab, left", x.cell(6, 0), 2);
        due("least of ab, left", x.cell(3, 0), 2);
        due("least of ab, right", x.cell(3, 1), 1);
        due("least of the longest", x.cell(7, 2), 7);
        due("cells, left", x.cellMany(0), 4);
        due("cells, right", x.cellMany(1), 4);
        due("cells, both", x.cellMany(2), 3);
        due("a to ba, left", x.under(4, 1, 0), 1);
        due("ba to a, left", x.under(1, 4, 0), 1);
        due("a to ab, left", x.under(3, 1, 0), 0);
        due("0 to the longest", x.under(7, 0, 0), 1);
        due("the longest to 0", x.under(0, 7, 2), 0);
        due("itself", x.under(7, 7, 1), 1);
        due("under 8", x.under(8, 0, 0), -2);
        due("under -1", x.under(0, -1, 0), -2);
        for (int kind : new int[] {-1, 3}) {
            due("kind " + kind, x.cell(0, kind), -2);
            due("kind " + kind, x.cellOf(0, kind), -2);
            due("kind " + kind, x.cellMany(kind), -2);
            due("kind " + kind, x.under(0, 0, kind), -2);
        }
        due("cell 8", x.cell(8, 0), -2);
        due("cellOf -1", x.cellOf(-1, 0), -2);
        due("as many as there are turns that are nothing twice", Check.of(TWENTY_FOUR).cellMany(0), 10);
    }

    private static void productsOfC() {
        ReflectionWords x = Check.of(TWENTY_FOUR);
        due("a a", x.product(0, 1, 1), 2);
        due("a a, 0", x.product(0, 1, 0), 0);
        due("a 0", x.product(0, 0, 1), 1);
        due("a b, ab", x.product(0, 2, 4), 1);
        due("a ba, aba", x.product(0, 6, 9), 1);
        due("a ba, a", x.product(0, 6, 1), 1);
        due("a ba, ba", x.product(0, 6, 6), 0);
        due("a bacb, abacb", x.product(0, 18, 20), 1);
        due("a bacb, acb", x.product(0, 18, 11), 1);
        due("a bacb, b", x.product(0, 18, 2), 0);
        due("letter 3", x.product(3, 0, 0), -2);
        due("letter -1", x.product(-1, 0, 0), -2);
        due("w 24", x.product(0, 24, 0), -2);
        due("z 24", x.product(0, 0, 24), -2);
    }

    private static void setsOfLetters() {
        ReflectionWords x = Check.of(TWENTY_FOUR);
        due("least of bacb by b", x.least(18, 2), 12);
        due("least of bacb by b, c", x.least(18, 6), 6);
        due("least by none", x.least(18, 0), 18);
        due("least by all", x.least(18, 7), 0);
        due("least by 8", x.least(18, 8), -2);
        due("least by -1", x.least(18, -1), -2);
        due("least of 24", x.least(24, 0), -2);
        due("longest a, b", x.longest(3), 9);
        due("longest a, c", x.longest(5), 5);
        due("longest b, c", x.longest(6), 13);
        due("longest of all", x.longest(7), 23);
        due("longest 0", x.longest(0), 0);
        due("longest 8", x.longest(8), -2);
        due("longest -1", x.longest(-1), -2);
        due("cosets of none", x.cosets(0), 24);
        due("cosets of a, b", x.cosets(3), 4);
        due("cosets of a, c", x.cosets(5), 6);
        due("cosets of all", x.cosets(7), 1);
        due("cosets 8", x.cosets(8), -2);
        due("cosets -1", x.cosets(-1), -2);
        int[] least = {0, 3, 7, 10};
        for (int i = 0; i < 4; i++) {
            due("coset " + i, x.coset(3, i), least[i]);
        }
        due("coset 4", x.coset(3, 4), -1);
        due("coset MAX", x.coset(3, MAX), -1);
        due("coset -1", x.coset(3, -1), -2);
        due("coset of 8", x.coset(8, 0), -2);
        due("pBy none is p", x.pBy(0, 2, 18, 1), 1);
        due("pBy all", x.pBy(7, 18, 2, 0), 1);
        due("pBy a, c", x.pBy(5, 0, 18, 1), x.p(5, x.times(x.least(18, 5), 5), 1));
        due("pBy beyond", x.pBy(7, 0, 0, MAX), 0);
        due("pBy k -1", x.pBy(0, 2, 18, -1), -1000000);
        due("pBy 8", x.pBy(8, 2, 18, 0), -1000000);
        due("pBy 24", x.pBy(0, 24, 18, 0), -1000000);
        due("pBy , 24", x.pBy(0, 2, 24, 0), -1000000);
    }

    private static void insideAndHecke() {
        ReflectionWords x = Check.of(EIGHT);
        due("abab has a", x.inside(7, 1), 2);
        due("abab has ab", x.inside(7, 3), 3);
        due("abab has ba", x.inside(7, 4), 1);
        due("abab has aba", x.inside(7, 5), 1);
        due("abab has bab", x.inside(7, 6), 1);
        due("abab has itself", x.inside(7, 7), 1);
        due("a has abab", x.inside(1, 7), 0);
        due("0 has 0", x.inside(0, 0), 1);
        due("inside 8", x.inside(8, 0), -2);
        due("inside -1", x.inside(0, -1), -2);
        due("a a, 0: q", x.hecke(1, 1, 0, 1), 1);
        due("a a, 0", x.hecke(1, 1, 0, 0), 0);
        due("a a, a: q - 1", x.hecke(1, 1, 1, 1), 1);
        due("a a, a: q - 1", x.hecke(1, 1, 1, 0), -1);
        due("ab b, ab", x.hecke(3, 2, 3, 0), -1);
        due("ab b, a", x.hecke(3, 2, 1, 1), 1);
        due("a b is not b a", x.hecke(1, 2, 4, 0), 0);
        due("longest longest, 0", x.hecke(7, 7, 0, 4), 1);
        due("beyond", x.hecke(7, 7, 0, MAX), 0);
        due("k -1", x.hecke(7, 7, 0, -1), -1000000);
        due("8", x.hecke(8, 7, 0, 0), -1000000);
        due(", 8", x.hecke(7, 8, 0, 0), -1000000);
        due(", , 8", x.hecke(7, 7, 8, 0), -1000000);
    }

    private static void weakOrders() {
        ReflectionWords x = Check.of(TWENTY_FOUR);
        due("b bac, behind", x.weakly(2, 12, 1), 1);
        due("b bac, ahead", x.weakly(2, 12, 0), 0);
        due("ac bac, ahead", x.weakly(5, 12, 0), 1);
        due("ac bac, behind", x.weakly(5, 12, 1), 0);
        due("itself", x.weakly(12, 12, 0), 1);
        due("downwards", x.weakly(12, 2, 1), 0);
        due("side 2", x.weakly(0, 0, 2), -2);
        due("side -1", x.weakly(0, 0, -1), -2);
        due("24", x.weakly(24, 0, 0), -2);
        due("meet ba bc, behind", x.meet(6, 7, 1), 2);
        due("meet ba bc, ahead", x.meet(6, 7, 0), 0);
        due("meet ab cb, ahead", x.meet(4, 8, 0), 2);
        due("meet itself", x.meet(9, 9, 1), 9);
        due("meet side 2", x.meet(0, 0, 2), -2);
        due("meet 24", x.meet(0, 24, 0), -2);
        due("join a c", x.join(1, 3, 1), 5);
        due("join a b", x.join(1, 2, 0), 9);
        due("join ba bc, behind", x.join(6, 7, 1), 12);
        due("join ba bc, ahead: abcba, cbabc", x.join(6, 7, 0), 21);
        due("join aba bcb, ahead", x.join(9, 13, 0), 23);
        due("join 0", x.join(0, 17, 0), 17);
        due("join side -1", x.join(0, 0, -1), -2);
        due("join 24", x.join(24, 0, 0), -2);
        due("weakMany longest", x.weakMany(23, 0), 24);
        due("weakMany 0", x.weakMany(0, 1), 1);
        due("weakMany bac, behind", x.weakMany(12, 1), 5);
        due("weakMany bac, ahead", x.weakMany(12, 0), 5);
        due("weakMany acb, ahead", x.weakMany(11, 0), 5);
        due("weakMany abc, behind", x.weakMany(10, 1), 4);
        due("weakMany side 2", x.weakMany(0, 2), -2);
        due("weakMany 24", x.weakMany(24, 0), -2);
    }

    private static void movesOfRows() {
        ReflectionWords x = Check.of("group 5;");
        due("abcde to edcba", x.moves(31, 0, 119), 10);
        due("abcde to abced", x.moves(31, 0, 1), 1);
        due("and back", x.moves(31, 119, 0), 10);
        due("itself", x.moves(31, 7, 7), 0);
        due("row 120", x.moves(31, 0, 120), -2);
        due("row 120 ,", x.moves(31, 120, 0), -2);
        due("row -1", x.moves(31, -1, 0), -2);
        due("row , -1", x.moves(31, 0, -1), -2);
        due("element 32", x.moves(32, 0, 0), -2);
        due("element 0", x.moves(0, 0, 0), 0);
        due("element 0, row 1", x.moves(0, 0, 1), -2);
        ReflectionWords y = Check.of("group 5;bond b d 3;");
        due("240 rows, abcdbe to edcbda", y.moves(47, 0, 239), 12);
        due("the last row", y.moves(47, 239, 239), 0);
        due("240 rows, no more", y.moves(47, 240, 0), -2);
        due("240 rows, no more", y.moves(47, 0, 240), -2);
        due("twelve by turns are one move", Check.of("group 2;bond b a 12;").moves(23, 0, 1), 1);
        due("a move of three", Check.of(TWENTY_FOUR).moves(9, 0, 1), 1);
        due("one of three, one of two", Check.of("group 3;bond a b 3;").moves(11, 0, 7), 4);
    }

    private static void mirrors() {
        ReflectionWords x = Check.of(TWENTY_FOUR);
        due("inversions 0", x.inversions(0), 0);
        due("inversions b", x.inversions(2), 2);
        due("inversions ab: a, aba", x.inversions(4), 1 | 8);
        due("inversions longest", x.inversions(23), 63);
        due("inversions 24", x.inversions(24), -2);
        due("inversions -1", x.inversions(-1), -2);
        due("mirrors 0", x.mirrors(0), 0);
        due("mirrors aba", x.mirrors(9), 1);
        due("mirrors ac", x.mirrors(5), 2);
        due("mirrors abc", x.mirrors(10), 3);
        due("mirrors longest", x.mirrors(23), 2);
        due("mirrors 24", x.mirrors(24), -2);
        due("mirror 0", x.mirror(0), -1);
        due("mirror b", x.mirror(2), 1);
        due("mirror ac", x.mirror(5), 0);
        due("mirror longest: b or abcba alone", x.mirror(23), 1);
        due("mirror of abcba", x.mirror(21), 5);
        due("mirror 24", x.mirror(24), -2);
        due("mirror -1", x.mirror(-1), -2);
    }

    private static void pathsAndSides() {
        ReflectionWords x = Check.of(SIX);
        due("no step", x.paths(3, 3, 0), 1);
        due("no step, another one", x.paths(3, 4, 0), 0);
        due("one step", x.paths(0, 5, 1), 1);
        due("one step up", x.paths(1, 3, 1), 1);
        due("one step down", x.paths(3, 1, 1), 0);
        due("two steps", x.paths(0, 3, 2), 2);
        due("three steps", x.paths(0, 5, 3), 4);
        due("30 steps", x.paths(0, 5, 30), 0);
        due("31 steps", x.paths(0, 5, 31), -2);
        due("-1 steps", x.paths(0, 5, -1), -2);
        due("6", x.paths(0, 6, 1), -2);
        due("-1", x.paths(-1, 0, 1), -2);
        due("sided a, a: a", x.sided(1, 1), 1);
        due("sided a, b: ab", x.sided(1, 2), 1);
        due("sided all", x.sided(3, 3), 1);
        due("sided a, all", x.sided(1, 3), 0);
        due("sided 0, 0", x.sided(0, 0), 1);
        due("sided 4", x.sided(4, 0), -2);
        due("sided , 4", x.sided(0, 4), -2);
        due("sided -1", x.sided(-1, 0), -2);
        due("two of one kind", Check.of(TWENTY_FOUR).sided(2, 2), 2);
    }

    private static void conjugates() {
        ReflectionWords x = Check.of(EIGHT);
        due("aba turned", x.conjugate(6), 1);
        due("bab turned", x.conjugate(5), 2);
        due("many", x.conjugates(5), 2);
        due("ba turned", x.conjugate(4), 3);
        due("the longest alone", x.conjugates(7), 1);
        due("0 alone", x.conjugates(0), 1);
        due("0", x.conjugate(0), 0);
        due("8", x.conjugate(8), -2);
        due("8", x.conjugates(8), -2);
        due("-1", x.conjugate(-1), -2);
        due("-1", x.conjugates(-1), -2);
    }

    private static void marking() {
        ReflectionWords x = Check.of(TWENTY_FOUR);
        due("nothing below", x.ideal(), 0);
        due("no peaks", x.peaks(), 0);
        due("nothing marked", x.marked(), 0);
        due("mark ab", x.mark(4), 1);
        due("mark c", x.mark(3), 2);
        due("mark b", x.mark(2), 3);
        due("marked", x.marked(), 16 | 8 | 4);
        due("ideal: 0, a, b, c, ab", x.ideal(), 31);
        due("peaks: c, ab", x.peaks(), 16 | 8);
        due("no more", x.mark(4), 2);
        due("ideal", x.ideal(), 13);
        due("peaks", x.peaks(), 12);
        due("mark 24", x.mark(24), -2);
        due("mark -1", x.mark(-1), -2);
        due("acts", x.count(5), 4);
    }

    private static void thinningAndShifting() {
        ReflectionWords x = Check.of(SIX);
        due("thin nothing", x.thin(), 0);
        due("it is an act", x.count(5), 1);
        for (int e : new int[] {0, 1, 3, 4}) {
            x.mark(e);
        }
        due("thin", x.thin(), 2);
        due("marked ab, ba", x.marked(), 24);
        due("thin again", x.thin(), 0);
        due("shift by a: aba, b", x.shift(0), 2);
        due("marked", x.marked(), 32 | 4);
        due("shift by a again", x.shift(0), 2);
        due("marked", x.marked(), 24);
        x.mark(1);
        due("all at once", x.shift(1), 3);
        due("a, ab, ba go to ab, a, bab", x.marked(), 8 | 2 | 32);
        due("shift 2", x.shift(2), -2);
        due("shift -1", x.shift(-1), -2);
        due("acts", x.count(5), 11);
    }

    private static void images() {
        ReflectionWords x = Check.of(SIX);
        due("nothing kept", x.back(0), -6);
        due("image of nothing", x.image(2), 0);
        x.mark(1);
        x.mark(2);
        due("image 0", x.image(0), 0);
        due("image is no act", x.count(5), 2);
        x.shift(0);
        due("image 1", x.image(1), 0);
        due("back 0", x.back(0), 0);
        due("marked", x.marked(), 6);
        due("acts", x.count(5), 2);
        due("undo", x.undo(), 1);
        due("marked", x.marked(), 2);
        x.mark(5);
        due("back 1", x.back(1), 0);
        due("marked", x.marked(), 1 | 16);
        due("acts", x.count(5), 3);
        due("undo", x.undo(), 2);
        due("marked", x.marked(), 6);
        due("undo", x.undo(), 1);
        due("marked", x.marked(), 2);
        due("back 0 again", x.back(0), 0);
        due("marked", x.marked(), 6);
        due("back 2", x.back(2), 0);
        due("marked", x.marked(), 0);
        due("acts", x.count(5), 0);
        due("image anew", x.image(0), 0);
        due("back", x.back(1), 0);
        due("back", x.back(0), 0);
        due("marked", x.marked(), 0);
        for (int k : new int[] {-1, 3, MIN, MAX}) {
            due("image " + k, x.image(k), -2);
            due("back " + k, x.back(k), -2);
        }
        Check.group(x, EIGHT);
        due("nothing of this group", x.back(1), -6);
    }

    private static void undoing() {
        ReflectionWords x = Check.of(SIX);
        due("none to undo", x.undo(), -5);
        due("none anew", x.anew(), 0);
        x.mark(3);
        x.mark(1);
        x.thin();
        x.shift(0);
        due("undo", x.undo(), 3);
        due("marked", x.marked(), 8);
        due("undo", x.undo(), 2);
        due("marked", x.marked(), 10);
        due("undo", x.undo(), 1);
        due("marked", x.marked(), 8);
        due("undo", x.undo(), 0);
        due("marked", x.marked(), 0);
        due("none to undo", x.undo(), -5);
        x.mark(3);
        x.mark(1);
        due("anew", x.anew(), 2);
        due("marked", x.marked(), 0);
        due("acts", x.count(5), 0);
        due("none to undo", x.undo(), -5);
    }

    private static void fullOfActs() {
        ReflectionWords x = Check.of(SIX);
        for (int i = 0; i < 30; i++) {
            x.mark(i % 5);
        }
        long marked = x.marked();
        due("acts", x.count(5), 30);
        due("mark", x.mark(0), -5);
        due("mark of none", x.mark(6), -2);
        due("thin", x.thin(), -5);
        due("shift", x.shift(1), -5);
        due("shift of none", x.shift(2), -2);
        due("marked stays", x.marked(), marked);
        due("acts stay", x.count(5), 30);
        due("image", x.image(0), 0);
        due("undo", x.undo(), 29);
        due("mark again", x.mark(5), Long.bitCount(x.marked()));
        due("back", x.back(0), 0);
        due("marked", x.marked(), marked);
        due("anew", x.anew(), 30);
        due("marked", x.marked(), 0);
    }
}
