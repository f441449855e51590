/** A test for each sentence with a boundary case: promises 1 to 6 and 10, the tape and what it tells (I, II). */
public final class BoundaryTapeTest {
    private static final int MIN = Refused.MIN;
    private static final int MAX = Refused.MAX;
    private static final String SIX = Refused.SIX;
    private static final String TWENTY_FOUR = Refused.TWENTY_FOUR;
    private static final String SIXTY = Refused.SIXTY;
    private static final int BLANKS = 0x20202020;

    private BoundaryTapeTest() {
    }

    public static void main(String[] args) throws IllegalAccessException {
        Named.run(BoundaryTapeTest.class);
    }

    private static void due(String call, long got, long want) {
        Check.due(call, got, want);
    }

    private static int feedBlanks(ReflectionWords x) {
        return x.feed(BLANKS, BLANKS, BLANKS, BLANKS, BLANKS);
    }

    /** A tape with so many bytes, all blanks. */
    private static ReflectionWords blank(int bytes) {
        ReflectionWords x = new ReflectionWords();
        for (int i = 0; i < bytes; i += 20) {
            feedBlanks(x);
        }
        x.end(bytes);
        return x;
    }

    // Promise 1

    static void promise01_newObject_hasNoGroup() {
        due("rank", new ReflectionWords().count(0), 0);
        due("elements", new ReflectionWords().count(1), 0);
        due("longest", new ReflectionWords().count(2), 0);
        due("reflections", new ReflectionWords().count(3), 0);
        due("lines", new ReflectionWords().count(4), 0);
        due("element 0", new ReflectionWords().length(0), -2);
        due("letter 0", new ReflectionWords().bond(0, 0), -2);
        due("no letters", new ReflectionWords().longest(0), -2);
    }

    static void promise01_newObject_hasNothingElse() {
        ReflectionWords x = new ReflectionWords();
        due("acts", x.count(5), 0);
        due("bytes", x.count(6), 0);
        due("fault", x.fault(0), 0);
        due("place", x.fault(1), -1);
        due("NONE", ReflectionWords.NONE, -1);
    }

    static void promise01_newObject_isOneOfItsOwn() {
        ReflectionWords one = Check.of(SIX);
        one.mark(3);
        one.feed(1, 2, 3, 4, 5);
        ReflectionWords other = new ReflectionWords();
        due("elements", other.count(1), 0);
        due("bytes", other.count(6), 0);
        Check.group(other, TWENTY_FOUR);
        other.mark(5);
        due("elements of the first", one.count(1), 6);
        due("marked of the first", one.marked(), 8);
        due("bytes of the first", one.count(6), 20);
    }

    static void promise01_newObject_answers512Calls() {
        ReflectionWords x = Check.of(SIX);
        // Check.of() took three of the calls: feed, end, group.
        for (int call = 4; call <= 512; call++) {
            due("call " + call, x.times(call % 6, 0), call % 6);
        }
    }

    // Promise 2

    static void promise02_feed_answersHowManyBytes() {
        ReflectionWords x = new ReflectionWords();
        for (int i = 1; i <= 15; i++) {
            due("feed " + i, feedBlanks(x), 20 * i);
        }
    }

    static void promise02_feed_upTo300Comes() {
        ReflectionWords x = blank(280);
        due("feed", feedBlanks(x), 300);
        due("bytes", x.count(6), 300);
    }

    static void promise02_feed_beyond300IsRefused() {
        for (int bytes = 281; bytes <= 300; bytes++) {
            due("feed behind " + bytes, feedBlanks(blank(bytes)), -1);
        }
    }

    static void promise02_feed_refusedNoneCome() {
        ReflectionWords x = new ReflectionWords();
        Check.put(x, " ".repeat(281) + "group 2;");
        due("feed", x.feed(-1, -1, -1, -1, -1), -1);
        due("bytes", x.count(6), 289);
        due("group", x.group(), 4);
    }

    static void promise02_feed_refusedAgainAndAgain() {
        ReflectionWords x = blank(300);
        for (int i = 0; i < 40; i++) {
            due("feed", feedBlanks(x), -1);
        }
        due("bytes", x.count(6), 300);
        due("end", x.end(280), 280);
        due("feed again", feedBlanks(x), 300);
    }

    static void promise02_feed_theLastOf300BytesIsRead() {
        ReflectionWords x = new ReflectionWords();
        Check.put(x, " ".repeat(292) + "group 3;");
        due("bytes", x.count(6), 300);
        due("group", x.group(), 8);
        Check.put(x, "\n".repeat(299) + "@");
        due("fault", x.group(), -4);
        due("place", x.fault(1), 299);
    }

    static void promise02_feed_theHighestByteFirst() {
        ReflectionWords x = new ReflectionWords();
        // "grou" "p 2 " ";   " and blanks
        due("feed", x.feed(0x67726f75, 0x70203220, 0x3b202020, BLANKS, 0x0a0a0a0a), 20);
        due("group", x.group(), 4);
    }

    static void promise02_feed_theNumbersInTheirOrder() {
        ReflectionWords x = Check.of(TWENTY_FOUR);
        // "a   " "b   " "a   " "c   " "b   ": abacb
        x.feed(0x61202020, 0x62202020, 0x61202020, 0x63202020, 0x62202020);
        due("element", x.element(), 20);
    }

    static void promise02_feed_bytesAbove127AreBytes() {
        ReflectionWords x = Check.of(SIX);
        x.feed(0x61622020, 0x8062ffe1, -1, MIN, MAX);
        due("element", x.element(), -4);
        due("fault", x.fault(0), 1);
        due("place", x.fault(1), 4);
    }

    static void promise02_feed_behindWhatIsThere() {
        ReflectionWords x = Check.of(SIX);
        x.feed(0x61616162, 0, 0, 0, 0);
        x.end(3);
        due("feed", x.feed(0x62202020, BLANKS, BLANKS, BLANKS, BLANKS), 23);
        due("aaab", x.element(), 3);
    }

    // Promise 3

    static void promise03_end_allOfIt() {
        ReflectionWords x = blank(20);
        due("end 20", x.end(20), 20);
        due("bytes", x.count(6), 20);
        due("end 300", blank(300).end(300), 300);
        due("end 0 of none", new ReflectionWords().end(0), 0);
    }

    static void promise03_end_nothingOfIt() {
        ReflectionWords x = blank(300);
        due("end 0", x.end(0), 0);
        due("bytes", x.count(6), 0);
        due("feed", feedBlanks(x), 20);
    }

    static void promise03_end_notSoMany() {
        due("end 1 of none", new ReflectionWords().end(1), -1);
        due("end 21 of 20", blank(20).end(21), -1);
        due("end 301 of 300", blank(300).end(301), -1);
        due("end 300 of 299", blank(299).end(300), -1);
        due("end MAX", blank(20).end(MAX), -1);
    }

    static void promise03_end_belowZero() {
        due("end -1", blank(20).end(-1), -1);
        due("end -1 of none", new ReflectionWords().end(-1), -1);
        due("end -20", blank(20).end(-20), -1);
        due("end MIN", blank(300).end(MIN), -1);
    }

    static void promise03_end_refusedNothingHappens() {
        ReflectionWords x = new ReflectionWords();
        Check.put(x, "group 1;");
        due("end 9", x.end(9), -1);
        due("end -1", x.end(-1), -1);
        due("bytes", x.count(6), 8);
        due("group", x.group(), 2);
    }

    static void promise03_end_theFirstBytesAlone() {
        ReflectionWords x = Check.of(TWENTY_FOUR);
        Check.put(x, "abc");
        due("end 2", x.end(2), 2);
        due("what was cut is gone", x.end(3), -1);
        due("ab", x.element(), 4);
    }

    static void promise03_end_ofATapeThatWasRead() {
        ReflectionWords x = Check.of(SIX);
        Check.element(x, "ab");
        due("end 1", x.end(1), -1);
        due("end 0", x.end(0), 0);
    }

    // Promise 4

    static void promise04_group_theTapeIsEmptyThen() {
        ReflectionWords x = new ReflectionWords();
        due("a group", Check.group(x, SIX), 6);
        due("bytes", x.count(6), 0);
        due("a fault", Check.group(x, "group 2"), -4);
        due("bytes", x.count(6), 0);
        due("too large", Check.group(x, "group 3;bond a b 5;bond b c 3;"), -5);
        due("bytes", x.count(6), 0);
        due("none", Check.group(x, "\n"), 0);
        due("bytes", x.count(6), 0);
    }

    static void promise04_group_theSmallest() {
        ReflectionWords x = new ReflectionWords();
        due("group 1", Check.group(x, "group 1;"), 2);
        due("longest", x.count(2), 1);
        due("reflections", x.count(3), 1);
    }

    static void promise04_group_of60() {
        ReflectionWords x = new ReflectionWords();
        due("60", Check.group(x, SIXTY), 60);
        due("60, other letters", Check.group(x, "group 4;bond d a 5;bond b c 3;"), 60);
        due("56", Check.group(x, "group 4;bond b c 7;"), 56);
        due("length of the last one", x.length(55), 9);
    }

    static void promise04_group_moreThan60() {
        String[] texts = {
            "group 4;bond a b 4;bond c d 4;", "group 4;bond a b 8;", "group 5;bond a b 4;", "group 5;bond d e 5;",
            "group 4;bond a b 3;bond c d 6;", "group 5;bond a b 3;bond c d 3;", "group 3;bond a b 5;bond b c 3;",
            "group 4;bond a b 3;bond b c 4;", "group 4;bond a b 3;bond b c 3;bond c d 3;"};
        for (String text : texts) {
            due(text, Check.group(new ReflectionWords(), text), -5);
        }
    }

    static void promise04_group_withoutEnd() {
        String[] texts = {
            "group 3;bond a b 3;bond b c 3;bond c a 3;", "group 3;bond a b 4;bond b c 4;",
            "group 3;bond a b 6;bond b c 3;",
            "group 3;bond a b 12;bond b c 12;bond c a 12;", "group 3;bond b c 12;bond a b 3;",
            "group 4;bond a b 3;bond b c 3;bond c d 3;bond d a 3;"};
        for (String text : texts) {
            due(text, Check.group(new ReflectionWords(), text), -5);
        }
        StringBuilder all = new StringBuilder("group 5;");
        for (char a = 'a'; a <= 'e'; a++) {
            for (char b = (char) (a + 1); b <= 'e'; b++) {
                all.append("bond ").append(a).append(' ').append(b).append(" 12;");
            }
        }
        due("all bonds", Check.group(new ReflectionWords(), all.toString()), -5);
    }

    static void promise04_group_anEmptyTapeIsNoGroup() {
        ReflectionWords x = new ReflectionWords();
        due("nothing", x.group(), 0);
        due("blanks", Check.group(x, " \n \n"), 0);
        due("300 blanks", Check.group(x, " ".repeat(300)), 0);
        due("fault", x.fault(0), 0);
        due("place", x.fault(1), -1);
    }

    static void promise04_group_noneIsThenInPlaceOfAnother() {
        ReflectionWords x = Check.of(SIX);
        x.mark(3);
        x.image(0);
        due("none", Check.group(x, ""), 0);
        for (int what = 0; what <= 6; what++) {
            due("count " + what, x.count(what), 0);
        }
        due("element 0", x.length(0), -2);
        due("letter 0", x.bond(0, 0), -2);
        due("marked", x.marked(), -2);
        due("back", x.back(0), -2);
        due("element", Check.element(x, "a"), -2);
    }

    static void promise04_group_inPlaceOfAnother() {
        ReflectionWords x = Check.of(SIXTY);
        due("a smaller one", Check.group(x, "group 2;"), 4);
        due("rank", x.count(0), 2);
        due("longest", x.count(2), 2);
        due("reflections", x.count(3), 2);
        due("lines", x.count(4), 1);
        due("no bond is left", x.bond(0, 1), 2);
        due("ab twice", x.order(3), 2);
        due("a larger one", Check.group(x, TWENTY_FOUR), 24);
        due("abc", x.order(10), 4);
        due("bond b c", x.bond(1, 2), 3);
        due("bond a c", x.bond(0, 2), 2);
    }

    /** Each text again and again, by turns: nothing may be left of the one or two told ahead of it. */
    static void promise04_group_nothingIsLeftOfOthers() {
        ReflectionWords x = new ReflectionWords();
        String[] texts = {SIXTY, Refused.LONE, TWENTY_FOUR, SIX, Refused.FREE, TWENTY_FOUR, SIXTY, SIX, TWENTY_FOUR};
        for (String text : texts) {
            Check.group(x, text);
            ReflectionWords alone = Check.of(text);
            int top = alone.count(1) - 1;
            due("reflections", x.count(3), alone.count(3));
            due("the last reflection", x.reflection(x.count(3) - 1), alone.reflection(alone.count(3) - 1));
            due("the longest's rows", x.spellings(top), alone.spellings(top));
            due("the longest turned", x.inverse(top), alone.inverse(top));
            for (int e = 0; e <= top; e += 3) {
                due("ahead of " + e, x.descents(e, 0), alone.descents(e, 0));
                due("behind " + e, x.descents(e, 1), alone.descents(e, 1));
                due("below " + e, x.interval(0, e), alone.interval(0, e));
                due("mirrors of " + e, x.mirrors(e), alone.mirrors(e));
            }
        }
    }

    static void promise04_group_polynomialsOfThisGroup() {
        ReflectionWords x = Check.of(SIXTY);
        due("none crooked", x.crooked(), 0);
        due("cells", x.cellMany(2), 9);
        Check.group(x, TWENTY_FOUR);
        due("b bacb", x.p(2, 18, 1), 1);
        due("crooked", x.crooked(), 6);
        due("cells", x.cellMany(0), 10);
        due("the longest alone", x.cellOf(23, 2), 1L << 23);
        Check.group(x, SIX);
        due("a, ba", x.cellOf(1, 0), 18);
        due("crooked", x.crooked(), 0);
        Check.group(x, TWENTY_FOUR);
        due("a 0, first of all", x.product(0, 0, 1), 1);
        due("mu", x.mu(2, 18), 1);
    }

    static void promise04_group_noActsThen() {
        ReflectionWords x = Check.of(SIX);
        for (int i = 0; i < 30; i++) {
            x.mark(i % 6);
        }
        due("the same group", Check.group(x, SIX), 6);
        due("acts", x.count(5), 0);
        due("undo", x.undo(), -5);
        due("mark", x.mark(1), 1);
    }

    static void promise04_group_nothingMarkedThen() {
        ReflectionWords x = Check.of(SIX);
        x.mark(1);
        x.mark(5);
        Check.group(x, SIX);
        due("marked", x.marked(), 0);
        due("ideal", x.ideal(), 0);
        x.mark(2);
        x.undo();
        due("marked ahead of the first act", x.marked(), 0);
    }

    static void promise04_group_noImagesThen() {
        ReflectionWords x = Check.of(SIX);
        for (int k = 0; k < 3; k++) {
            x.image(k);
        }
        Check.group(x, SIX);
        for (int k = 0; k < 3; k++) {
            due("back " + k, x.back(k), -6);
        }
    }

    /** Everything that a group of six with marks, images and acts answers must be as it was. */
    private static void stays(String text, int answer) {
        ReflectionWords x = Check.of(SIX);
        x.mark(3);
        x.image(1);
        x.mark(4);
        due(text, Check.group(x, text), answer);
        due("rank", x.count(0), 2);
        due("elements", x.count(1), 6);
        due("longest", x.count(2), 3);
        due("reflections", x.count(3), 3);
        due("lines", x.count(4), 2);
        due("acts", x.count(5), 2);
        due("bytes", x.count(6), 0);
        due("bond", x.bond(0, 1), 3);
        due("length", x.length(5), 3);
        due("element 6", x.length(6), -2);
        due("times", x.times(3, 3), 4);
        due("reflection", x.reflection(2), 5);
        due("spellings", x.spellings(5), 2);
        due("p", x.p(0, 5, 0), 1);
        due("cells", x.cellMany(0), 4);
        due("marked", x.marked(), 24);
        due("undo", x.undo(), 1);
        due("marked", x.marked(), 8);
        due("image 0", x.back(0), -6);
        x.anew();
        due("image 1", x.back(1), 0);
        due("marked", x.marked(), 8);
        due("acts", x.count(5), 1);
    }

    static void promise04_group_allElseStaysWithAFault() {
        stays("group 5", -4);
        stays("group 1;bond", -4);
        stays("group 3;bond a c 7;bond b a 3;bond c a 3;", -4);
        stays("@", -4);
    }

    static void promise04_group_allElseStaysWithMoreThan60() {
        stays("group 4;bond a b 4;bond c d 4;", -5);
        stays("group 3;bond a b 12;bond b c 12;bond c a 12;", -5);
        stays("group 5;bond d e 12;", -5);
    }

    static void promise04_group_manyRefusedOnesInARow() {
        ReflectionWords x = Check.of(TWENTY_FOUR);
        for (int i = 0; i < 8; i++) {
            due("too large", Check.group(x, "group 5;bond a e 4;"), -5);
            due("a fault", Check.group(x, "group 9;"), -4);
        }
        due("elements", x.count(1), 24);
        due("p", x.p(2, 18, 1), 1);
        due("next one", Check.group(x, SIX), 6);
        due("p", x.p(0, 5, 1), 0);
    }

    static void promise04_group_theFaultAheadOfMoreThan60() {
        ReflectionWords x = new ReflectionWords();
        due("too large, and a fault", Check.group(x, "group 5;bond a b 12;bond a b 12;"), -4);
        due("place", x.fault(1), 27);
    }

    private static void faulty(String text, int fault, int place) {
        ReflectionWords x = new ReflectionWords();
        due(text, Check.group(x, text), -4);
        due(text + " fault", x.fault(0), fault);
        due(text + " place", x.fault(1), place);
    }

    static void promise04_group_ranks1To5() {
        int many = 2;
        for (int rank = 1; rank <= 5; rank++) {
            ReflectionWords x = new ReflectionWords();
            due("rank " + rank, Check.group(x, "group " + rank + ";"), many);
            due("letters", x.count(0), rank);
            many *= 2;
        }
    }

    static void promise04_group_rankOutOfBounds() {
        String[] numbers = {
            "0", "00", "6", "7", "10", "12", "99", "257", "65537", "4294967297", "18446744073709551617"};
        for (String number : numbers) {
            faulty("group " + number + ";", 2, 6);
        }
        faulty("group 1" + "0".repeat(290) + ";", 2, 6);
    }

    static void promise04_group_bonds3To12() {
        for (int m = 3; m <= 12; m++) {
            ReflectionWords x = new ReflectionWords();
            due("bond " + m, Check.group(x, "group 2;bond a b " + m + ";"), 2 * m);
            due("M", x.bond(0, 1), m);
        }
    }

    static void promise04_group_bondOutOfBounds() {
        String[] numbers = {
            "0", "1", "2", "02", "13", "14", "20", "99", "259", "65539", "4294967299", "18446744073709551619"};
        for (String number : numbers) {
            faulty("group 2;bond a b " + number + ";", 2, 17);
        }
    }

    static void promise04_group_numbersMayBeginWithZeros() {
        due("rank", Check.group(new ReflectionWords(), "group 0002;"), 4);
        due("M", Check.group(new ReflectionWords(), "group 2;bond a b " + "0".repeat(250) + "12;"), 24);
    }

    static void promise04_group_lettersOfTheRank() {
        due("the last letter", Check.group(new ReflectionWords(), "group 5;bond e a 3;"), 48);
        faulty("group 4;bond e a 3;", 2, 13);
        faulty("group 4;bond a e 3;", 2, 15);
        faulty("group 5;bond f a 3;", 2, 13);
        faulty("group 5;bond a f 3;", 2, 15);
        faulty("group 5;bond a z 3;", 2, 15);
        faulty("group 1;bond b a 3;", 2, 13);
        faulty("group 1;bond a b 3;", 2, 15);
    }

    static void promise04_group_twoUnlikeLetters() {
        faulty("group 2;bond a a 3;", 2, 15);
        faulty("group 5;bond e e 3;", 2, 15);
        faulty("group 1;bond a a 3;", 2, 15);
    }

    static void promise04_group_eachTwoOnce() {
        faulty("group 3;bond a b 3;bond a b 3;", 2, 26);
        faulty("group 3;bond a b 3;bond b a 4;", 2, 26);
        faulty("group 3;bond c b 3;bond a b 3;bond b c 3;", 2, 37);
        due("each of them with another", Check.group(new ReflectionWords(), "group 3;bond b a 3;bond b c 3;"), 24);
    }

    static void promise04_group_wordsOfOneLetter() {
        faulty("group 2;bond aa b 3;", 1, 13);
        faulty("group 2;bond a bb 3;", 1, 15);
        faulty("group 2;bond ab 3;", 1, 13);
        faulty("group 2;bond zz b 3;", 1, 13);
        faulty("group 2;bonda b 3;", 1, 8);
    }

    static void promise04_group_isTheFirstLine() {
        faulty("bond a b 3;", 1, 0);
        faulty("a", 1, 0);
        faulty("groupe 2;", 1, 0);
        faulty("grou p 2;", 1, 0);
        for (String word : new String[] {"aroup", "gaoup", "grxup", "groap", "groua", "bondb"}) {
            faulty(word + " 2;", 1, 0);
        }
        faulty("\n bond a b 3;group 2;", 1, 2);
        faulty(";group 2;", 1, 0);
    }

    static void promise04_group_bondIsEachOtherLine() {
        for (String word : new String[] {"aond", "bnnd", "boad", "bona", "bon", "bonds", "a"}) {
            faulty("group 2;" + word + " a b 3;", 1, 8);
        }
    }

    static void promise04_group_andNoOther() {
        faulty("group 2;group 2;", 1, 8);
        faulty("group 2;bond a b 3;group 2;", 1, 19);
        faulty("group 2;bond a b 3; group", 1, 20);
    }

    static void promise04_group_tokensThatAreNone() {
        for (int sign = 0; sign < 256; sign++) {
            boolean none = !(sign >= 'a' && sign <= 'z') && !(sign >= '0' && sign <= '9')
                && sign != ';' && sign != ' ' && sign != '\n';
            if (none) {
                faulty("group 2; " + (char) sign, 1, 9);
                faulty("group " + (char) sign + "2;", 1, 6);
            }
        }
    }

    static void promise04_group_signsBesideTheTokens() {
        faulty("group `;", 1, 6);
        faulty("group {;", 1, 6);
        faulty("group /;", 1, 6);
        faulty("group :;", 1, 6);
        faulty("group 2:", 1, 7);
        faulty("group 2<", 1, 7);
        faulty("group 2;Bond a b 3;", 1, 8);
        faulty("group 2;bond A b 3;", 1, 13);
        faulty("group\t2;", 1, 5);
        faulty("group\r2;", 1, 5);
        faulty("group -2;", 1, 6);
        faulty("group +2;", 1, 6);
    }

    static void promise04_group_theLongestTokens() {
        ReflectionWords x = new ReflectionWords();
        due("word and number touch", Check.group(x, "group2;bond a b12;"), 24);
        due("no blanks", Check.group(x, "group3;bond a b3;bond b c3;"), 24);
        faulty("group 2 2;", 1, 8);
        faulty("gro\nup 2;", 1, 0);
        faulty("group 1 2;", 1, 8);
        faulty("group 2;bond a b 1 2;", 2, 17);
    }

    static void promise04_group_blanksAside() {
        ReflectionWords x = new ReflectionWords();
        due("blanks everywhere", Check.group(x, "\n\n group \n 2 \n ; bond \n a \n b \n 3 \n ; \n"), 6);
        due("lines", x.count(4), 2);
    }

    static void promise04_group_faultOfTheFirstPlace() {
        faulty("group 9;@", 2, 6);
        faulty("group @;bond a a 3;", 1, 6);
        faulty("group 2;bond c c 99", 2, 13);
        faulty("group 2;bond a a 99", 2, 15);
        faulty("group 2;bond a b 99", 2, 17);
        faulty("group 2;bond a @ 99", 1, 15);
    }

    static void promise04_group_faultAtTheEnd() {
        faulty("group", 1, 5);
        faulty("group 2", 1, 7);
        faulty("group 2;bond", 1, 12);
        faulty("group 2;bond a", 1, 14);
        faulty("group 2;bond a b", 1, 16);
        faulty("group 2;bond a b 3", 1, 18);
        faulty(" ".repeat(295) + "group", 1, 300);
    }

    static void promise04_group_faultAtTheEndBehindBlanks() {
        faulty("group 2 \n", 1, 9);
        faulty("group 2" + " ".repeat(293), 1, 300);
    }

    static void promise04_group_faultOfALineWithTooMuch() {
        faulty("group 2;;", 1, 8);
        faulty("group 2 a;", 1, 8);
        faulty("group 2;bond a b 3 c;", 1, 19);
        faulty("group 2;bond a b 3 3;", 1, 19);
    }

    static void promise04_group_faultOfALineWithTooLittle() {
        faulty("group;", 1, 5);
        faulty("group 2;bond;", 1, 12);
        faulty("group 2;bond a;", 1, 14);
        faulty("group 2;bond a b;", 1, 16);
        faulty("group 2;bond a 3;", 1, 15);
        faulty("group a;", 1, 6);
    }

    // Promise 5

    static void promise05_fault_aheadOfAny() {
        ReflectionWords x = new ReflectionWords();
        due("what 0", x.fault(0), 0);
        due("what 1", x.fault(1), -1);
        Check.put(x, "@");
        due("what 0, fed alone", x.fault(0), 0);
        due("what 1, fed alone", x.fault(1), -1);
    }

    static void promise05_fault_anotherWhat() {
        ReflectionWords x = new ReflectionWords();
        for (int what : new int[] {-1, 2, 3, 6, MIN, MIN + 1, MAX}) {
            due("ahead of any, what " + what, x.fault(what), -1);
        }
        due("a fault", Check.group(x, "group 9;"), -4);
        for (int what : new int[] {-1, 2, 3, 6, MIN, MIN + 1, MAX}) {
            due("behind a fault, what " + what, x.fault(what), -1);
        }
    }

    static void promise05_fault_ofAGroup() {
        ReflectionWords x = new ReflectionWords();
        Check.group(x, "group 2;bond a a 3;");
        due("fault", x.fault(0), 2);
        due("place", x.fault(1), 15);
        Check.group(x, "@");
        due("fault", x.fault(0), 1);
        due("place 0", x.fault(1), 0);
    }

    static void promise05_fault_ofAnElement() {
        ReflectionWords x = Check.of(SIX);
        Check.element(x, "ab c");
        due("fault", x.fault(0), 2);
        due("place", x.fault(1), 3);
        Check.element(x, ";");
        due("fault", x.fault(0), 1);
        due("place 0", x.fault(1), 0);
    }

    static void promise05_fault_goneWithALaterGroup() {
        ReflectionWords x = new ReflectionWords();
        Check.group(x, "group 9;");
        due("a group", Check.group(x, SIX), 6);
        due("fault", x.fault(0), 0);
        due("place", x.fault(1), -1);
        Check.group(x, "group 9;");
        due("none", Check.group(x, ""), 0);
        due("fault", x.fault(0), 0);
        due("place", x.fault(1), -1);
    }

    static void promise05_fault_noneWithMoreThan60() {
        ReflectionWords x = new ReflectionWords();
        Check.group(x, "group 9;");
        due("too large", Check.group(x, "group 5;bond a b 4;"), -5);
        due("fault", x.fault(0), 0);
        due("place", x.fault(1), -1);
    }

    static void promise05_fault_goneWithALaterElement() {
        ReflectionWords x = Check.of(SIX);
        Check.group(x, "group 9;");
        due("an element", Check.element(x, ""), 0);
        due("fault", x.fault(0), 0);
        due("place", x.fault(1), -1);
    }

    static void promise05_fault_staysWithOtherCalls() {
        ReflectionWords x = Check.of(SIX);
        Check.element(x, "b a 7");
        x.feed(0, 0, 0, 0, 0);
        x.end(-1);
        x.length(77);
        x.mark(3);
        x.undo();
        due("fault", x.fault(0), 1);
        due("place", x.fault(1), 4);
    }

    // Promise 6

    static void promise06_count_noneForOthers() {
        for (int what : new int[] {-1, 7, 8, MIN, MIN + 6, MAX}) {
            due("without a group, " + what, new ReflectionWords().count(what), -1);
            due("with one, " + what, Check.of(SIX).count(what), -1);
        }
    }

    static void promise06_count_theSmallestGroup() {
        int[] want = {1, 2, 1, 1, 1, 0, 0};
        for (int what = 0; what <= 6; what++) {
            due("count " + what, Check.of(Refused.LONE).count(what), want[what]);
        }
    }

    static void promise06_count_theLargestGroups() {
        int[] sixty = {4, 60, 8, 8, 3, 0, 0};
        int[] free = {5, 32, 5, 5, 1, 0, 0};
        for (int what = 0; what <= 6; what++) {
            due("60, count " + what, Check.of(SIXTY).count(what), sixty[what]);
            due("rank 5, count " + what, Check.of(Refused.FREE).count(what), free[what]);
        }
        due("the longest of any group", Check.of(Refused.THIRTEEN_LONG).count(2), 13);
    }

    static void promise06_count_withoutGroup() {
        for (int what = 0; what <= 6; what++) {
            int which = what;
            Refused.noGroup(0, x -> x.count(which));
        }
    }

    static void promise06_count_actsUpTo30() {
        ReflectionWords x = Check.of(SIX);
        for (int i = 1; i <= 30; i++) {
            x.mark(0);
            due("acts", x.count(5), i);
        }
        x.mark(0);
        due("a refused one is none", x.count(5), 30);
        x.mark(6);
        due("one of no element is none", x.count(5), 30);
    }

    static void promise06_count_bytesOfTheTape() {
        ReflectionWords x = blank(300);
        due("300", x.count(6), 300);
        feedBlanks(x);
        due("a refused feed", x.count(6), 300);
        x.end(1);
        due("1", x.count(6), 1);
        x.element();
        due("read without a group", x.count(6), 0);
    }

    // Promise 10

    static void promise10_element_noLetters() {
        ReflectionWords x = Check.of(TWENTY_FOUR);
        due("nothing", x.element(), 0);
        due("blanks", Check.element(x, " \n \n "), 0);
        due("300 blanks", Check.element(x, "\n".repeat(300)), 0);
    }

    static void promise10_element_anyRow() {
        ReflectionWords x = Check.of(SIX);
        due("300 letters", Check.element(x, "ab".repeat(150)), 0);
        due("299 letters", Check.element(x, "a".repeat(299)), 1);
        due("298 letters", Check.element(x, "ba".repeat(149)), 3);
        due("bab is aba", Check.element(x, "bab"), 5);
    }

    static void promise10_element_blanksBetween() {
        ReflectionWords x = Check.of(SIX);
        due("a ba", Check.element(x, "a ba"), 5);
        due("blanks around", Check.element(x, "\n a\nb "), 3);
        due("none between", Check.element(x, "ab"), 3);
    }

    static void promise10_element_theLastLetter() {
        due("e of 5", Check.element(Check.of(Refused.FREE), "e"), 5);
        due("f of 5", Check.element(Check.of(Refused.FREE), "f"), -4);
        due("a of 1", Check.element(Check.of(Refused.LONE), "a"), 1);
        due("b of 1", Check.element(Check.of(Refused.LONE), "b"), -4);
    }

    private static void faultyElement(String text, int fault, int place) {
        ReflectionWords x = Check.of(SIX);
        due(text, Check.element(x, text), -4);
        due(text + " fault", x.fault(0), fault);
        due(text + " place", x.fault(1), place);
        due(text + " bytes", x.count(6), 0);
    }

    static void promise10_element_aTokenThatIsNoWord() {
        faultyElement("3", 1, 0);
        faultyElement("ab;", 1, 2);
        faultyElement("ab 3", 1, 3);
        faultyElement("a3", 1, 1);
        faultyElement("A", 1, 0);
        faultyElement("a\tb", 1, 1);
        faultyElement("a" + (char) 0, 1, 1);
        faultyElement("a" + (char) 225, 1, 1);
        faultyElement(" ".repeat(299) + ";", 1, 299);
    }

    static void promise10_element_aLetterThatIsNoneAtItsWord() {
        faultyElement("c", 2, 0);
        faultyElement("abc", 2, 0);
        faultyElement("ab abz", 2, 3);
        faultyElement("z", 2, 0);
    }

    static void promise10_element_theFirstFault() {
        faultyElement("a c 3", 2, 2);
        faultyElement("a 3 c", 1, 2);
        faultyElement("abc;", 2, 0);
        faultyElement(";abc", 1, 0);
    }

    static void promise10_element_aFaultChangesNothingElse() {
        ReflectionWords x = Check.of(SIX);
        x.mark(3);
        due("a fault", Check.element(x, "7"), -4);
        due("elements", x.count(1), 6);
        due("marked", x.marked(), 8);
        due("acts", x.count(5), 1);
        due("the next one", Check.element(x, "ba"), 4);
    }

    static void promise10_element_theTapeIsEmptyThen() {
        ReflectionWords x = Check.of(SIX);
        Check.element(x, "ab");
        due("bytes", x.count(6), 0);
        due("the next one", x.element(), 0);
    }

    static void promise10_element_withoutGroup() {
        Refused.noGroup(-2, x -> Check.element(x, "a"));
        Refused.noGroup(-2, x -> Check.element(x, ""));
        Refused.noGroup(-2, x -> Check.element(x, "@"));
    }

    static void promise10_element_withoutGroupTheTapeIsEmptyThen() {
        ReflectionWords x = blank(300);
        due("element", x.element(), -2);
        due("bytes", x.count(6), 0);
        due("feed", feedBlanks(x), 20);
    }

    static void promise10_element_withoutGroupTheFaultStays() {
        ReflectionWords x = new ReflectionWords();
        due("no fault", Check.element(x, "7"), -2);
        due("fault", x.fault(0), 0);
        due("place", x.fault(1), -1);
        due("a fault", Check.group(x, "group 6;"), -4);
        due("without group", Check.element(x, "a"), -2);
        due("fault", x.fault(0), 2);
        due("place", x.fault(1), 6);
    }
}
