/**
 * Words of reflections: a group told by how often two letters go by turns till they are
 * nothing, and what can be asked of its elements. DOC.md has the promises.
 */
public final class ReflectionWords {
    public static final int NONE = -1;

    private static final int ABSENT = -2;
    private static final int FAULTY = -4;
    private static final int TOO_MANY = -5;
    private static final int NOTHING_KEPT = -6;
    private static final int NO_DIFFERENCE = -2000;
    private static final int NO_NUMBER = -1000000;
    private static final int NO_VALUE = -1000000000;

    private static final int BYTES_MOST = 300;
    private static final int BYTES_FED = 20;
    private static final int RANK_MOST = 5;
    private static final int BOND_LEAST = 3;
    private static final int BOND_MOST = 12;
    private static final int MOST = 60;
    private static final int ACTS_MOST = 30;
    private static final int IMAGES = 3;
    private static final int STEPS_MOST = 30;
    private static final int VALUE_MOST = 3;
    private static final int KINDS = 3;

    /*
     * A group of at most 60 elements is a product of some of: one letter, two letters with
     * a bond, the groups of 24 and of 48 elements with three letters. So no element is
     * longer than 13 (two letters with bond 12, and one more), and none has more than 240
     * shortest rows (two letters with bond 3, and three more).
     */
    private static final int POWERS = 16;
    private static final int P_POWERS = 8;
    private static final int ROWS_MOST = 240;

    private static final int AT_END = 0;
    private static final int WORD = 1;
    private static final int NUMBER = 2;
    private static final int SIGN = 3;
    private static final int OTHER = 4;

    private static final int MISPLACED = 1;
    private static final int OUT_OF_BOUNDS = 2;

    private final Tape tape;
    private final Telling telling;
    private final Polynomials polynomials;
    private final Cells cells;
    private final Expansion expansion;
    private final Rewriting rewriting;
    private final Marks marks;
    private final long[] ways;
    private Elements now;
    private Elements next;
    private int lines;

    public ReflectionWords() {
        tape = new Tape();
        telling = new Telling();
        polynomials = new Polynomials();
        cells = new Cells();
        expansion = new Expansion();
        rewriting = new Rewriting();
        marks = new Marks();
        ways = new long[MOST];
        now = new Elements();
        next = new Elements();
        lines = 0;
    }

    public int feed(int a, int b, int c, int d, int e) {
        if (tape.size + BYTES_FED > BYTES_MOST) {
            return NONE;
        }
        tape.put(a);
        tape.put(b);
        tape.put(c);
        tape.put(d);
        tape.put(e);
        return tape.size;
    }

    public int end(int n) {
        if (n < 0 || n > tape.size) {
            return NONE;
        }
        tape.size = n;
        return n;
    }

    public int group() {
        telling.readGroup(tape);
        tape.size = 0;
        if (telling.fault != 0) {
            return FAULTY;
        }
        // The group that stands must stay as it is if the new one is too large.
        if (!next.make(telling)) {
            return TOO_MANY;
        }
        Elements old = now;
        now = next;
        next = old;
        lines = telling.lines;
        polynomials.ready = false;
        cells.ready = false;
        marks.reset();
        return now.many;
    }

    public int fault(int what) {
        if (what == 0) {
            return telling.fault;
        }
        return what == 1 ? telling.place : NONE;
    }

    public int count(int what) {
        switch (what) {
            case 0:
                return now.rank;
            case 1:
                return now.many;
            case 2:
                return now.highest();
            case 3:
                return now.mirrorMany;
            case 4:
                return lines;
            case 5:
                return marks.acts;
            case 6:
                return tape.size;
            default:
                return NONE;
        }
    }

    public int bond(int one, int other) {
        if (!isLetter(one) || !isLetter(other)) {
            return ABSENT;
        }
        return now.turns(one, other);
    }

    public int length(int element) {
        return isElement(element) ? now.lengths[element] : ABSENT;
    }

    public int letter(int element, int i) {
        if (!isElement(element) || i < 0) {
            return ABSENT;
        }
        return i < now.lengths[element] ? now.letterOf(element, i) : NONE;
    }

    public int element() {
        if (now.many == 0) {
            tape.size = 0;
            return ABSENT;
        }
        int answer = telling.readElement(tape, now);
        tape.size = 0;
        return telling.fault != 0 ? FAULTY : answer;
    }

    public long spellings(int element) {
        return isElement(element) ? now.rows[element] : ABSENT;
    }

    public int spelled(int element, int k, int i) {
        if (!isElement(element) || k < 0 || i < 0) {
            return ABSENT;
        }
        if (k >= now.rows[element] || i >= now.lengths[element]) {
            return NONE;
        }
        return letterOfRow(now.row(element, k), now.lengths[element], i);
    }

    public int times(int one, int other) {
        return arePair(one, other) ? now.mul(one, other) : ABSENT;
    }

    public int inverse(int element) {
        return isElement(element) ? now.inverses[element] : ABSENT;
    }

    public int order(int element) {
        if (!isElement(element)) {
            return ABSENT;
        }
        int power = element;
        int taken = 1;
        while (power != 0 && taken < MOST) {
            power = now.mul(power, element);
            taken++;
        }
        return taken;
    }

    public int descents(int element, int side) {
        if (!isElement(element) || !isSide(side)) {
            return ABSENT;
        }
        return now.descentsOn(element, side);
    }

    public int reflection(int i) {
        if (now.many == 0 || i < 0) {
            return ABSENT;
        }
        return i < now.mirrorMany ? now.mirrorList[i] : NONE;
    }

    public int below(int element, int other) {
        if (!arePair(element, other)) {
            return ABSENT;
        }
        return now.isBelow(element, other) ? 1 : 0;
    }

    public long covers(int element, int side) {
        if (!isElement(element) || !isSide(side)) {
            return ABSENT;
        }
        long answer = 0;
        for (int x = 0; x < now.many; x++) {
            boolean covering = side == 0 ? now.isCover(x, element) : now.isCover(element, x);
            if (covering) {
                answer |= 1L << x;
            }
        }
        return answer;
    }

    public long interval(int element, int other) {
        return arePair(element, other) ? between(element, other) : ABSENT;
    }

    public int layer(int element, int other, int k) {
        if (!arePair(element, other) || k < 0) {
            return ABSENT;
        }
        long inner = between(element, other);
        int answer = 0;
        for (int x = 0; x < now.many; x++) {
            if (hasBit(inner, x) && now.lengths[x] - now.lengths[element] == k) {
                answer++;
            }
        }
        return answer;
    }

    public long chains(int element, int other) {
        if (!arePair(element, other)) {
            return ABSENT;
        }
        long inner = between(element, other);
        clearWays();
        ways[element] = 1;
        for (int x = element + 1; x <= other; x++) {
            if (hasBit(inner, x)) {
                ways[x] = waysByCovers(x, inner);
            }
        }
        return ways[other];
    }

    public int layers(int k) {
        if (now.many == 0 || k < 0) {
            return ABSENT;
        }
        int answer = 0;
        for (int x = 0; x < now.many; x++) {
            if (now.lengths[x] == k) {
                answer++;
            }
        }
        return answer;
    }

    public int r(int element, int other, int k) {
        if (!arePair(element, other) || k < 0) {
            return NO_NUMBER;
        }
        expansion.unfoldR(now, other);
        return expansion.number(element, k);
    }

    public int p(int element, int other, int k) {
        if (!arePair(element, other) || k < 0) {
            return NO_NUMBER;
        }
        polynomials.prepare(now);
        return polynomials.number(element, other, k);
    }

    public int degree(int element, int other) {
        if (!arePair(element, other)) {
            return ABSENT;
        }
        polynomials.prepare(now);
        return polynomials.highestPower(element, other);
    }

    public int mu(int element, int other) {
        if (!arePair(element, other)) {
            return ABSENT;
        }
        polynomials.prepare(now);
        return polynomials.middle(now, element, other);
    }

    public int at(int element, int other, int x) {
        if (!arePair(element, other) || x < -VALUE_MOST || x > VALUE_MOST) {
            return NO_VALUE;
        }
        polynomials.prepare(now);
        int value = 0;
        for (int k = P_POWERS - 1; k >= 0; k--) {
            value = value * x + polynomials.number(element, other, k);
        }
        return value;
    }

    public int q(int element, int other, int k) {
        if (!arePair(element, other) || k < 0) {
            return NO_NUMBER;
        }
        int top = now.many - 1;
        return p(now.mul(top, other), now.mul(top, element), k);
    }

    public int smooth(int element) {
        if (!isElement(element)) {
            return ABSENT;
        }
        polynomials.prepare(now);
        for (int v = 0; v < now.many; v++) {
            if (polynomials.isCrooked(v, element)) {
                return 0;
            }
        }
        return 1;
    }

    public int tallest() {
        if (now.many == 0) {
            return ABSENT;
        }
        polynomials.prepare(now);
        return polynomials.highestNumber(now.many);
    }

    public int crooked() {
        if (now.many == 0) {
            return ABSENT;
        }
        polynomials.prepare(now);
        return polynomials.crookedUpTo(now.many);
    }

    public int crookedPair(int i) {
        if (now.many == 0 || i < 0) {
            return ABSENT;
        }
        polynomials.prepare(now);
        return polynomials.crookedAt(now.many, i);
    }

    public int cell(int element, int kind) {
        if (!isElement(element) || !isKind(kind)) {
            return ABSENT;
        }
        prepareCells();
        return Long.numberOfTrailingZeros(cells.membersWith(element, kind, now.many));
    }

    public long cellOf(int element, int kind) {
        if (!isElement(element) || !isKind(kind)) {
            return ABSENT;
        }
        prepareCells();
        return cells.membersWith(element, kind, now.many);
    }

    public int cellMany(int kind) {
        if (now.many == 0 || !isKind(kind)) {
            return ABSENT;
        }
        prepareCells();
        int answer = 0;
        for (int x = 0; x < now.many; x++) {
            if (Long.numberOfTrailingZeros(cells.membersWith(x, kind, now.many)) == x) {
                answer++;
            }
        }
        return answer;
    }

    public int under(int element, int other, int kind) {
        if (!arePair(element, other) || !isKind(kind)) {
            return ABSENT;
        }
        prepareCells();
        return cells.leads(other, element, kind) ? 1 : 0;
    }

    public int product(int s, int w, int z) {
        if (!isLetter(s) || !arePair(w, z)) {
            return ABSENT;
        }
        if (hasBit(now.ahead[w], s)) {
            return z == w ? 2 : 0;
        }
        if (z == now.mul(s + 1, w)) {
            return 1;
        }
        if (z == w || !hasBit(now.ahead[z], s)) {
            return 0;
        }
        polynomials.prepare(now);
        return polynomials.middle(now, z, w);
    }

    public int least(int element, int letters) {
        if (!isElement(element) || !isSet(letters)) {
            return ABSENT;
        }
        int x = element;
        for (int i = 0; i < MOST && (now.behind[x] & letters) != 0; i++) {
            x = now.by(x, Integer.numberOfTrailingZeros(now.behind[x] & letters));
        }
        return x;
    }

    public int longest(int letters) {
        if (!isSet(letters)) {
            return ABSENT;
        }
        int x = 0;
        for (int i = 0; i < MOST && (letters & ~now.behind[x]) != 0; i++) {
            x = now.by(x, Integer.numberOfTrailingZeros(letters & ~now.behind[x]));
        }
        return x;
    }

    public long inside(int element, int other) {
        if (!arePair(element, other)) {
            return ABSENT;
        }
        clearWays();
        ways[0] = 1;
        for (int i = 0; i < now.lengths[element]; i++) {
            int s = now.letterOf(element, i);
            // Downwards, as what x gives goes to a higher one, which has been asked already.
            for (int x = now.many - 1; x >= 0; x--) {
                if (!hasBit(now.behind[x], s)) {
                    ways[now.by(x, s)] += ways[x];
                }
            }
        }
        return ways[other];
    }

    public int hecke(int v, int w, int z, int k) {
        if (!arePair(v, w) || !isElement(z) || k < 0) {
            return NO_NUMBER;
        }
        expansion.unfoldProduct(now, v, w);
        return expansion.number(z, k);
    }

    public int weakly(int element, int other, int side) {
        if (!arePair(element, other) || !isSide(side)) {
            return ABSENT;
        }
        return now.isWeaklyBelow(element, other, side) ? 1 : 0;
    }

    public int meet(int element, int other, int side) {
        if (!arePair(element, other) || !isSide(side)) {
            return ABSENT;
        }
        for (int x = now.many - 1; x > 0; x--) {
            if (now.isWeaklyBelow(x, element, side) && now.isWeaklyBelow(x, other, side)) {
                return x;
            }
        }
        return 0;
    }

    public int join(int element, int other, int side) {
        if (!arePair(element, other) || !isSide(side)) {
            return ABSENT;
        }
        for (int x = 0; x < now.many - 1; x++) {
            if (now.isWeaklyBelow(element, x, side) && now.isWeaklyBelow(other, x, side)) {
                return x;
            }
        }
        return now.many - 1;
    }

    public int moves(int element, int k, int l) {
        if (!isElement(element) || k < 0 || l < 0) {
            return ABSENT;
        }
        if (k >= now.rows[element] || l >= now.rows[element]) {
            return ABSENT;
        }
        return rewriting.fewest(now, element, k, l);
    }

    public long inversions(int element) {
        if (!isElement(element)) {
            return ABSENT;
        }
        long answer = 0;
        for (int i = 0; i < now.mirrorMany; i++) {
            int turned = now.mul(now.mirrorList[i], element);
            if (now.lengths[turned] < now.lengths[element]) {
                answer |= 1L << i;
            }
        }
        return answer;
    }

    public int mirrors(int element) {
        return isElement(element) ? now.mirrorsOf[element] : ABSENT;
    }

    public int mirror(int element) {
        if (!isElement(element)) {
            return ABSENT;
        }
        for (int i = 0; i < now.mirrorMany; i++) {
            int turned = now.mul(now.mirrorList[i], element);
            if (now.mirrorsOf[turned] < now.mirrorsOf[element]) {
                return i;
            }
        }
        return NONE;
    }

    public int cosets(int letters) {
        if (!isSet(letters)) {
            return ABSENT;
        }
        int answer = 0;
        for (int x = 0; x < now.many; x++) {
            if ((now.behind[x] & letters) == 0) {
                answer++;
            }
        }
        return answer;
    }

    public int coset(int letters, int i) {
        if (!isSet(letters) || i < 0) {
            return ABSENT;
        }
        int passed = 0;
        for (int x = 0; x < now.many; x++) {
            if ((now.behind[x] & letters) == 0) {
                if (passed == i) {
                    return x;
                }
                passed++;
            }
        }
        return NONE;
    }

    public int pBy(int letters, int element, int other, int k) {
        if (!isSet(letters) || !arePair(element, other) || k < 0) {
            return NO_NUMBER;
        }
        int top = longest(letters);
        return p(now.mul(least(element, letters), top), now.mul(least(other, letters), top), k);
    }

    public int weakMany(int element, int side) {
        if (!isElement(element) || !isSide(side)) {
            return ABSENT;
        }
        int answer = 0;
        for (int x = 0; x < now.many; x++) {
            if (now.isWeaklyBelow(x, element, side)) {
                answer++;
            }
        }
        return answer;
    }

    public long paths(int element, int other, int n) {
        if (!arePair(element, other) || n < 0 || n > STEPS_MOST) {
            return ABSENT;
        }
        clearWays();
        ways[element] = 1;
        // Each step is longer by one at least, so more steps than letters lead nowhere.
        for (int i = 0; i < n && i <= now.highest(); i++) {
            // Downwards, as what comes to x comes from lower ones, which are still of the step before.
            for (int x = other; x >= 0; x--) {
                ways[x] = waysByMirrors(x);
            }
        }
        return ways[other];
    }

    public int sided(int ahead, int behind) {
        if (!isSet(ahead) || !isSet(behind)) {
            return ABSENT;
        }
        int answer = 0;
        for (int x = 0; x < now.many; x++) {
            if (now.ahead[x] == ahead && now.behind[x] == behind) {
                answer++;
            }
        }
        return answer;
    }

    public int euler(int element, int other) {
        if (!arePair(element, other)) {
            return NO_DIFFERENCE;
        }
        long inner = between(element, other);
        int answer = 0;
        for (int x = 0; x < now.many; x++) {
            if (hasBit(inner, x)) {
                answer += (now.lengths[x] & 1) == 0 ? 1 : -1;
            }
        }
        return answer;
    }

    public int conjugate(int element) {
        return isElement(element) ? Long.numberOfTrailingZeros(turnedOnes(element)) : ABSENT;
    }

    public int conjugates(int element) {
        return isElement(element) ? Long.bitCount(turnedOnes(element)) : ABSENT;
    }

    public long ideal() {
        return now.many == 0 ? ABSENT : allBelow(marks.set);
    }

    public long peaks() {
        return now.many == 0 ? ABSENT : topmost(allBelow(marks.set));
    }

    public long marked() {
        return now.many == 0 ? ABSENT : marks.set;
    }

    public int mark(int element) {
        if (!isElement(element)) {
            return ABSENT;
        }
        if (!marks.act(marks.set ^ (1L << element))) {
            return TOO_MANY;
        }
        return Long.bitCount(marks.set);
    }

    public int thin() {
        if (now.many == 0) {
            return ABSENT;
        }
        int before = Long.bitCount(marks.set);
        if (!marks.act(topmost(marks.set))) {
            return TOO_MANY;
        }
        return before - Long.bitCount(marks.set);
    }

    public int shift(int letter) {
        if (!isLetter(letter)) {
            return ABSENT;
        }
        if (!marks.act(now.allBy(marks.set, letter))) {
            return TOO_MANY;
        }
        return Long.bitCount(marks.set);
    }

    public int image(int k) {
        if (now.many == 0 || k < 0 || k >= IMAGES) {
            return ABSENT;
        }
        marks.keep(k);
        return 0;
    }

    public int back(int k) {
        if (now.many == 0 || k < 0 || k >= IMAGES) {
            return ABSENT;
        }
        return marks.bring(k) ? 0 : NOTHING_KEPT;
    }

    public int undo() {
        if (now.many == 0) {
            return ABSENT;
        }
        return marks.takeBack() ? marks.acts : TOO_MANY;
    }

    public int anew() {
        if (now.many == 0) {
            return ABSENT;
        }
        int before = marks.acts;
        marks.takeAllBack();
        return before;
    }

    private boolean isElement(int element) {
        return element >= 0 && element < now.many;
    }

    private boolean arePair(int one, int other) {
        return isElement(one) && isElement(other);
    }

    private boolean isLetter(int letter) {
        return letter >= 0 && letter < now.rank;
    }

    private boolean isSet(int letters) {
        return now.many > 0 && letters >= 0 && letters < 1 << now.rank;
    }

    private static boolean isSide(int side) {
        return side == 0 || side == 1;
    }

    private static boolean isKind(int kind) {
        return kind >= 0 && kind < KINDS;
    }

    private static boolean hasBit(long set, int i) {
        return (set >> i & 1) != 0;
    }

    /** A row of letters is held as one number, three bits a letter, the first one highest. */
    private static int letterOfRow(long row, int size, int i) {
        return (int) (row >> 3 * (size - 1 - i)) & 7;
    }

    private void clearWays() {
        for (int x = 0; x < MOST; x++) {
            ways[x] = 0;
        }
    }

    private long waysByCovers(int x, long inner) {
        long sum = 0;
        for (int y = 0; y < x; y++) {
            if (hasBit(inner, y) && now.isCover(y, x)) {
                sum += ways[y];
            }
        }
        return sum;
    }

    private long waysByMirrors(int x) {
        long sum = 0;
        for (int i = 0; i < now.mirrorMany; i++) {
            int y = now.mul(x, now.mirrorList[i]);
            if (now.lengths[y] < now.lengths[x]) {
                sum += ways[y];
            }
        }
        return sum;
    }

    private long between(int low, int high) {
        long answer = 0;
        for (int x = 0; x < now.many; x++) {
            if (now.isBelow(low, x) && now.isBelow(x, high)) {
                answer |= 1L << x;
            }
        }
        return answer;
    }

    private long allBelow(long set) {
        long answer = 0;
        for (int x = 0; x < now.many; x++) {
            if (hasBit(set, x)) {
                answer |= now.downs[x];
            }
        }
        return answer;
    }

    /** Those of a set that lie below no other one of it. */
    private long topmost(long set) {
        long lower = 0;
        for (int x = 0; x < now.many; x++) {
            if (hasBit(set, x)) {
                lower |= now.downs[x] & ~(1L << x);
            }
        }
        return set & ~lower;
    }

    private long turnedOnes(int element) {
        long answer = 0;
        for (int x = 0; x < now.many; x++) {
            answer |= 1L << now.mul(now.mul(now.inverses[x], element), x);
        }
        return answer;
    }

    private void prepareCells() {
        polynomials.prepare(now);
        cells.prepare(now, polynomials);
    }

    /** The bytes that were fed, and the token that was read last. */
    private static final class Tape {
        final byte[] bytes;
        int size;
        int kind;
        int from;
        int to;

        Tape() {
            bytes = new byte[BYTES_MOST];
        }

        void put(int number) {
            for (int shift = 24; shift >= 0 && size < BYTES_MOST; shift -= 8) {
                bytes[size] = (byte) (number >> shift);
                size++;
            }
        }

        void readFirst() {
            to = 0;
            readNext();
        }

        void readNext() {
            from = to;
            while (from < size && (bytes[from] == ' ' || bytes[from] == '\n')) {
                from++;
            }
            kind = from < size ? kindOf(bytes[from]) : AT_END;
            to = from < size ? from + 1 : size;
            if (kind == WORD || kind == NUMBER) {
                while (to < size && kindOf(bytes[to]) == kind) {
                    to++;
                }
            }
        }

        private static int kindOf(byte sign) {
            if (sign >= 'a' && sign <= 'z') {
                return WORD;
            }
            if (sign >= '0' && sign <= '9') {
                return NUMBER;
            }
            return sign == ';' ? SIGN : OTHER;
        }

        boolean isWord(String due) {
            if (kind != WORD || to - from != due.length()) {
                return false;
            }
            for (int i = 0; i < due.length(); i++) {
                if (bytes[from + i] != due.charAt(i)) {
                    return false;
                }
            }
            return true;
        }

        /** The number that the token tells; one of many digits is only told to be large. */
        int value() {
            int value = 0;
            for (int i = from; i < to; i++) {
                if (value < 1000) {
                    value = value * 10 + bytes[i] - '0';
                }
            }
            return value;
        }
    }

    /** What a text tells, up to its first fault. */
    private static final class Telling {
        final int[] bonds;
        int rank;
        int lines;
        int fault;
        int place;

        Telling() {
            bonds = new int[RANK_MOST * RANK_MOST];
            place = NONE;
        }

        void readGroup(Tape tape) {
            clear();
            tape.readFirst();
            for (int i = 0; i < BYTES_MOST && fault == 0 && tape.kind != AT_END; i++) {
                if (lines == 0) {
                    readRank(tape);
                } else {
                    readBond(tape);
                }
                pass(tape, tape.kind == SIGN);
                lines++;
            }
        }

        int readElement(Tape tape, Elements elements) {
            fault = 0;
            place = NONE;
            int x = 0;
            tape.readFirst();
            for (int i = 0; i < BYTES_MOST && fault == 0 && tape.kind != AT_END; i++) {
                if (tape.kind != WORD) {
                    fail(tape, MISPLACED);
                } else if (!areLetters(tape, elements.rank)) {
                    fail(tape, OUT_OF_BOUNDS);
                } else {
                    x = behindWord(tape, elements, x);
                    tape.readNext();
                }
            }
            return x;
        }

        private void clear() {
            rank = 0;
            lines = 0;
            fault = 0;
            place = NONE;
            for (int i = 0; i < RANK_MOST * RANK_MOST; i++) {
                bonds[i] = 0;
            }
        }

        private void readRank(Tape tape) {
            pass(tape, tape.isWord("group"));
            rank = readNumber(tape, 1, RANK_MOST);
        }

        private void readBond(Tape tape) {
            pass(tape, tape.isWord("bond"));
            int one = readLetter(tape, NONE);
            int other = readLetter(tape, one);
            int turns = readNumber(tape, BOND_LEAST, BOND_MOST);
            if (fault == 0) {
                bonds[one * RANK_MOST + other] = turns;
                bonds[other * RANK_MOST + one] = turns;
            }
        }

        private void pass(Tape tape, boolean fits) {
            if (fault != 0) {
                return;
            }
            if (fits) {
                tape.readNext();
            } else {
                fail(tape, MISPLACED);
            }
        }

        private int readNumber(Tape tape, int low, int high) {
            if (fault != 0) {
                return 0;
            }
            if (tape.kind != NUMBER) {
                fail(tape, MISPLACED);
                return 0;
            }
            int value = tape.value();
            if (value < low || value > high) {
                fail(tape, OUT_OF_BOUNDS);
                return 0;
            }
            tape.readNext();
            return value;
        }

        /** Reads a letter that may be told with another one (NONE: with any). */
        private int readLetter(Tape tape, int first) {
            if (fault != 0) {
                return 0;
            }
            if (tape.kind != WORD || tape.to - tape.from != 1) {
                fail(tape, MISPLACED);
                return 0;
            }
            int letter = tape.bytes[tape.from] - 'a';
            if (letter >= rank || letter == first || isTold(first, letter)) {
                fail(tape, OUT_OF_BOUNDS);
                return 0;
            }
            tape.readNext();
            return letter;
        }

        private boolean isTold(int first, int letter) {
            return first != NONE && bonds[first * RANK_MOST + letter] != 0;
        }

        private void fail(Tape tape, int what) {
            fault = what;
            place = tape.from;
        }

        private static boolean areLetters(Tape tape, int rank) {
            for (int i = tape.from; i < tape.to; i++) {
                if (tape.bytes[i] - 'a' >= rank) {
                    return false;
                }
            }
            return true;
        }

        private static int behindWord(Tape tape, Elements elements, int start) {
            int x = start;
            for (int i = tape.from; i < tape.to; i++) {
                x = elements.by(x, tape.bytes[i] - 'a');
            }
            return x;
        }
    }

    /** The elements of a group by number, and what is asked of them most. */
    private static final class Elements {
        final int[] bonds;
        final int[] lengths;
        final int[] heads;
        final int[] lasts;
        final int[] steps;
        final int[] products;
        final int[] inverses;
        final int[] ahead;
        final int[] behind;
        final int[] mirrorList;
        final int[] mirrorsOf;
        final long[] rows;
        final long[] downs;
        int rank;
        int many;
        int mirrorMany;

        Elements() {
            bonds = new int[RANK_MOST * RANK_MOST];
            lengths = new int[MOST];
            heads = new int[MOST];
            lasts = new int[MOST];
            steps = new int[MOST * RANK_MOST];
            products = new int[MOST * MOST];
            inverses = new int[MOST];
            ahead = new int[MOST];
            behind = new int[MOST];
            mirrorList = new int[MOST];
            mirrorsOf = new int[MOST];
            rows = new long[MOST];
            downs = new long[MOST];
        }

        /** False, if there are more elements than there may be. */
        boolean make(Telling told) {
            rank = told.rank;
            many = 0;
            mirrorMany = 0;
            for (int i = 0; i < RANK_MOST * RANK_MOST; i++) {
                bonds[i] = told.bonds[i] == 0 ? 2 : told.bonds[i];
            }
            if (rank == 0) {
                return true;
            }
            if (!findAll()) {
                return false;
            }
            fillProducts();
            fillDescents();
            fillRows();
            fillDowns();
            fillMirrors();
            fillMirrorsOf();
            return true;
        }

        /**
         * A least word without its last letter is a least word. So going through the
         * elements by number and through the letters finds the longer ones by number, too.
         */
        private boolean findAll() {
            addElement(0, 0);
            lengths[0] = 0;
            for (int w = 0; w < MOST && w < many; w++) {
                for (int s = 0; s < rank; s++) {
                    if (by(w, s) == NONE) {
                        if (many == MOST) {
                            return false;
                        }
                        addBehind(w, s);
                    }
                }
            }
            return true;
        }

        private void addElement(int head, int last) {
            int x = many;
            many++;
            lengths[x] = lengths[head] + 1;
            heads[x] = head;
            lasts[x] = last;
            for (int s = 0; s < RANK_MOST; s++) {
                steps[x * RANK_MOST + s] = NONE;
            }
        }

        private void addBehind(int w, int s) {
            int x = many;
            addElement(w, s);
            link(w, s, x);
            for (int t = 0; t < rank; t++) {
                int y = t == s ? NONE : otherSide(w, s, t);
                if (y != NONE) {
                    link(y, t, x);
                }
            }
        }

        private void link(int low, int s, int high) {
            steps[low * RANK_MOST + s] = high;
            steps[high * RANK_MOST + s] = low;
        }

        /**
         * The element that t behind it makes what s makes of w; NONE if there is none. There
         * is one just if w ends in M - 1 letters s, t by turns, t the last of them.
         */
        private int otherSide(int w, int s, int t) {
            int foot = w;
            int letter = t;
            for (int i = 1; i < turns(s, t); i++) {
                int lower = by(foot, letter);
                if (lower == NONE || lengths[lower] > lengths[foot]) {
                    return NONE;
                }
                foot = lower;
                letter = s + t - letter;
            }
            int x = foot;
            for (int i = 1; i < turns(s, t) && x != NONE; i++) {
                x = by(x, letter);
                letter = s + t - letter;
            }
            return x;
        }

        private void fillProducts() {
            for (int x = 0; x < many; x++) {
                products[x * MOST] = x;
                for (int y = 1; y < many; y++) {
                    products[x * MOST + y] = by(mul(x, heads[y]), lasts[y]);
                    if (mul(x, y) == 0) {
                        inverses[x] = y;
                    }
                }
            }
            inverses[0] = 0;
        }

        private void fillDescents() {
            for (int x = 0; x < many; x++) {
                ahead[x] = 0;
                behind[x] = 0;
                for (int s = 0; s < rank; s++) {
                    if (lengths[mul(s + 1, x)] < lengths[x]) {
                        ahead[x] |= 1 << s;
                    }
                    if (lengths[by(x, s)] < lengths[x]) {
                        behind[x] |= 1 << s;
                    }
                }
            }
        }

        private void fillRows() {
            rows[0] = 1;
            for (int x = 1; x < many; x++) {
                rows[x] = 0;
                for (int s = 0; s < rank; s++) {
                    if (hasBit(behind[x], s)) {
                        rows[x] += rows[by(x, s)];
                    }
                }
            }
        }

        /** A row with letters taken out either keeps its last letter or does not. */
        private void fillDowns() {
            downs[0] = 1;
            for (int x = 1; x < many; x++) {
                long lower = downs[heads[x]];
                downs[x] = lower | allBy(lower, lasts[x]);
            }
        }

        private void fillMirrors() {
            long set = 0;
            for (int x = 0; x < many; x++) {
                for (int s = 0; s < rank; s++) {
                    set |= 1L << mul(by(x, s), inverses[x]);
                }
            }
            for (int x = 0; x < many; x++) {
                if (hasBit(set, x)) {
                    mirrorList[mirrorMany] = x;
                    mirrorMany++;
                }
            }
        }

        private void fillMirrorsOf() {
            for (int x = 0; x < many; x++) {
                mirrorsOf[x] = x == 0 ? 0 : NONE;
            }
            for (int level = 0; level < MOST; level++) {
                if (!spreadMirrors(level)) {
                    return;
                }
            }
        }

        private boolean spreadMirrors(int level) {
            boolean found = false;
            for (int x = 0; x < many; x++) {
                for (int i = 0; i < mirrorMany && mirrorsOf[x] == level; i++) {
                    int y = mul(mirrorList[i], x);
                    if (mirrorsOf[y] == NONE) {
                        mirrorsOf[y] = level + 1;
                        found = true;
                    }
                }
            }
            return found;
        }

        int highest() {
            return many == 0 ? 0 : lengths[many - 1];
        }

        int turns(int one, int other) {
            return one == other ? 1 : bonds[one * RANK_MOST + other];
        }

        int by(int x, int s) {
            return steps[x * RANK_MOST + s];
        }

        int mul(int x, int y) {
            return products[x * MOST + y];
        }

        int descentsOn(int x, int side) {
            return side == 0 ? ahead[x] : behind[x];
        }

        boolean isBelow(int v, int w) {
            return hasBit(downs[w], v);
        }

        boolean isCover(int low, int high) {
            return lengths[low] + 1 == lengths[high] && isBelow(low, high);
        }

        boolean isWeaklyBelow(int v, int w, int side) {
            int rest = side == 0 ? mul(w, inverses[v]) : mul(inverses[v], w);
            return lengths[w] == lengths[v] + lengths[rest];
        }

        long allBy(long set, int s) {
            long answer = 0;
            for (int x = 0; x < many; x++) {
                if (hasBit(set, x)) {
                    answer |= 1L << by(x, s);
                }
            }
            return answer;
        }

        int letterOf(int x, int i) {
            int head = x;
            for (int n = lengths[x] - 1; n > i; n--) {
                head = heads[head];
            }
            return lasts[head];
        }

        /** The k-th of the shortest rows, the least first (there are more than k). */
        long row(int element, int k) {
            long answer = 0;
            long left = k;
            int x = element;
            for (int n = lengths[element]; n > 0; n--) {
                int s = 0;
                while (s < rank - 1 && left >= rowsFrom(x, s)) {
                    left -= rowsFrom(x, s);
                    s++;
                }
                answer = answer << 3 | s;
                x = mul(s + 1, x);
            }
            return answer;
        }

        private long rowsFrom(int x, int s) {
            return hasBit(ahead[x], s) ? rows[mul(s + 1, x)] : 0;
        }
    }

    /** P of all pairs, found when it is first asked for. */
    private static final class Polynomials {
        final int[] numbers;
        boolean ready;

        Polynomials() {
            numbers = new int[MOST * MOST * P_POWERS];
        }

        void prepare(Elements elements) {
            if (ready) {
                return;
            }
            ready = true;
            for (int w = 0; w < elements.many; w++) {
                clearColumn(elements.many, w);
                if (w == 0) {
                    numbers[0] = 1;
                } else {
                    fillColumn(elements, w);
                }
            }
        }

        int number(int v, int w, int k) {
            return k >= 0 && k < P_POWERS ? numbers[(v * MOST + w) * P_POWERS + k] : 0;
        }

        int highestPower(int v, int w) {
            for (int k = P_POWERS - 1; k >= 0; k--) {
                if (number(v, w, k) != 0) {
                    return k;
                }
            }
            return NONE;
        }

        int middle(Elements elements, int v, int w) {
            int n = elements.lengths[w] - elements.lengths[v];
            return n > 0 && (n & 1) == 1 ? number(v, w, (n - 1) / 2) : 0;
        }

        /** P is neither 0 nor 1: of what is below, number 0 is 1. */
        boolean isCrooked(int v, int w) {
            return highestPower(v, w) > 0;
        }

        int highestNumber(int many) {
            int answer = 0;
            for (int v = 0; v < many; v++) {
                for (int w = v; w < many; w++) {
                    for (int k = 0; k < P_POWERS; k++) {
                        answer = Math.max(answer, number(v, w, k));
                    }
                }
            }
            return answer;
        }

        int crookedUpTo(int many) {
            int answer = 0;
            for (int v = 0; v < many; v++) {
                for (int w = v; w < many; w++) {
                    if (isCrooked(v, w)) {
                        answer++;
                    }
                }
            }
            return answer;
        }

        int crookedAt(int many, int i) {
            int passed = 0;
            for (int v = 0; v < many; v++) {
                for (int w = v; w < many; w++) {
                    if (isCrooked(v, w)) {
                        if (passed == i) {
                            return 100 * v + w;
                        }
                        passed++;
                    }
                }
            }
            return NONE;
        }

        private void clearColumn(int many, int w) {
            for (int v = 0; v < many; v++) {
                for (int k = 0; k < P_POWERS; k++) {
                    numbers[(v * MOST + w) * P_POWERS + k] = 0;
                }
            }
        }

        /**
         * P by the product of C of the head of w and C of its last letter, which is C of w
         * and, as often as MU tells, of lower ones: it comes to the same as the sum over an
         * interval by which the document tells P, and takes far fewer steps.
         */
        private void fillColumn(Elements elements, int w) {
            int head = elements.heads[w];
            int s = elements.lasts[w];
            for (int x = 0; x <= w; x++) {
                if (hasBit(elements.behind[x], s) && elements.isBelow(x, w)) {
                    add(x, w, elements.by(x, s), head, 0, 1);
                    add(x, w, x, head, 1, 1);
                }
            }
            for (int z = 0; z < head; z++) {
                int often = hasBit(elements.behind[z], s) ? middle(elements, z, head) : 0;
                if (often != 0) {
                    takeAway(elements, w, z, often);
                }
            }
            for (int x = 0; x <= w; x++) {
                if (hasBit(elements.behind[x], s) && elements.isBelow(x, w)) {
                    add(elements.by(x, s), w, x, w, 0, 1);
                }
            }
        }

        private void takeAway(Elements elements, int w, int z, int often) {
            int s = elements.lasts[w];
            int power = (elements.lengths[w] - elements.lengths[z]) / 2;
            for (int x = 0; x <= z; x++) {
                if (hasBit(elements.behind[x], s) && elements.isBelow(x, z)) {
                    add(x, w, x, z, power, -often);
                }
            }
        }

        /** P of v, w grows by P of x, y, times q to a power, as often as told. */
        private void add(int v, int w, int x, int y, int power, int often) {
            int place = (v * MOST + w) * P_POWERS;
            for (int k = P_POWERS - 1; k >= power; k--) {
                numbers[place + k] += often * number(x, y, k - power);
            }
        }
    }

    /** What can be come to by edges, found when it is first asked for. */
    private static final class Cells {
        final long[] reach;
        boolean ready;

        Cells() {
            reach = new long[KINDS * MOST];
        }

        void prepare(Elements elements, Polynomials polynomials) {
            if (ready) {
                return;
            }
            ready = true;
            for (int x = 0; x < elements.many; x++) {
                for (int kind = 0; kind < KINDS; kind++) {
                    reach[kind * MOST + x] = 1L << x;
                }
            }
            for (int low = 0; low < elements.many; low++) {
                for (int high = low + 1; high < elements.many; high++) {
                    if (polynomials.middle(elements, low, high) != 0) {
                        addEdge(elements, low, high);
                        addEdge(elements, high, low);
                    }
                }
            }
            for (int kind = 0; kind < KINDS; kind++) {
                close(kind * MOST, elements.many);
            }
        }

        boolean leads(int from, int to, int kind) {
            return hasBit(reach[kind * MOST + from], to);
        }

        long membersWith(int element, int kind, int many) {
            long answer = 0;
            for (int x = 0; x < many; x++) {
                if (leads(element, x, kind) && leads(x, element, kind)) {
                    answer |= 1L << x;
                }
            }
            return answer;
        }

        private void addEdge(Elements elements, int from, int to) {
            for (int side = 0; side < 2; side++) {
                if ((elements.descentsOn(to, side) & ~elements.descentsOn(from, side)) != 0) {
                    reach[side * MOST + from] |= 1L << to;
                    reach[2 * MOST + from] |= 1L << to;
                }
            }
        }

        private void close(int start, int many) {
            for (int middle = 0; middle < many; middle++) {
                for (int x = 0; x < many; x++) {
                    if (hasBit(reach[start + x], middle)) {
                        reach[start + x] |= reach[start + middle];
                    }
                }
            }
        }
    }

    /** Numbers by powers of q for each element, unfolded letter by letter. */
    private static final class Expansion {
        final int[] numbers;

        Expansion() {
            numbers = new int[MOST * POWERS];
        }

        int number(int x, int k) {
            return k >= 0 && k < POWERS ? numbers[x * POWERS + k] : 0;
        }

        /** R of all elements and w. */
        void unfoldR(Elements elements, int w) {
            start(0);
            for (int i = 0; i < elements.lengths[w]; i++) {
                int s = elements.letterOf(w, i);
                for (int x = 0; x < elements.many; x++) {
                    if (!hasBit(elements.behind[x], s)) {
                        stepR(x * POWERS, elements.by(x, s) * POWERS, i + 1);
                    }
                }
            }
        }

        /** T of v times T of w. */
        void unfoldProduct(Elements elements, int v, int w) {
            start(v);
            for (int i = 0; i < elements.lengths[w]; i++) {
                int s = elements.letterOf(w, i);
                for (int x = 0; x < elements.many; x++) {
                    if (!hasBit(elements.behind[x], s)) {
                        stepProduct(x * POWERS, elements.by(x, s) * POWERS, i + 1);
                    }
                }
            }
        }

        private void start(int x) {
            for (int i = 0; i < MOST * POWERS; i++) {
                numbers[i] = 0;
            }
            numbers[x * POWERS] = 1;
        }

        /** The highest power first, as each number needs that of the power below it as it was. */
        private void stepR(int low, int high, int highest) {
            for (int k = Math.min(highest, POWERS - 1); k >= 0; k--) {
                int ofLow = numbers[low + k];
                int before = k == 0 ? 0 : numbers[low + k - 1] + numbers[high + k - 1];
                numbers[low + k] = before - ofLow;
                numbers[high + k] = ofLow;
            }
        }

        private void stepProduct(int low, int high, int highest) {
            for (int k = Math.min(highest, POWERS - 1); k >= 0; k--) {
                int before = k == 0 ? 0 : numbers[high + k - 1];
                numbers[high + k] = numbers[low + k] + before - numbers[high + k];
                numbers[low + k] = before;
            }
        }
    }

    /** The shortest rows of one element, and how far they are from one of them by moves. */
    private static final class Rewriting {
        final long[] rows;
        final int[] far;
        final int[] found;
        int many;
        int size;

        Rewriting() {
            rows = new long[ROWS_MOST];
            far = new int[ROWS_MOST];
            found = new int[ROWS_MOST];
        }

        int fewest(Elements elements, int element, int from, int to) {
            list(elements, element);
            if (from >= many || to >= many) {
                return ABSENT;
            }
            far[from] = 0;
            found[0] = from;
            int known = 1;
            for (int i = 0; i < many && i < known && far[to] == NONE; i++) {
                known = spread(elements, found[i], known);
            }
            return far[to];
        }

        private void list(Elements elements, int element) {
            many = (int) Math.min(elements.rows[element], ROWS_MOST);
            size = elements.lengths[element];
            for (int k = 0; k < many; k++) {
                rows[k] = elements.row(element, k);
                far[k] = NONE;
            }
        }

        private int spread(Elements elements, int k, int known) {
            int answer = known;
            for (int i = 0; i + 1 < size; i++) {
                long row = moved(elements, rows[k], i);
                int l = row == rows[k] ? NONE : find(row);
                if (l != NONE && far[l] == NONE && answer < ROWS_MOST) {
                    far[l] = far[k] + 1;
                    found[answer] = l;
                    answer++;
                }
            }
            return answer;
        }

        /** A row after the move at a place; the row itself, if there is none. */
        private long moved(Elements elements, long row, int i) {
            int one = letterOfRow(row, size, i);
            int other = letterOfRow(row, size, i + 1);
            int turns = elements.turns(one, other);
            if (one == other || i + turns > size) {
                return row;
            }
            long answer = row;
            for (int j = i; j < i + turns; j++) {
                int due = (j - i & 1) == 0 ? one : other;
                if (letterOfRow(row, size, j) != due) {
                    return row;
                }
                answer ^= (long) (one ^ other) << 3 * (size - 1 - j);
            }
            return answer;
        }

        private int find(long row) {
            int low = 0;
            int high = many - 1;
            for (int i = 0; i < ROWS_MOST && low < high; i++) {
                int middle = (low + high) / 2;
                if (rows[middle] < row) {
                    low = middle + 1;
                } else {
                    high = middle;
                }
            }
            return rows[low] == row ? low : NONE;
        }
    }

    /** What is marked, what was so ahead of each act, and images of both. */
    private static final class Marks {
        final long[] past;
        final long[] imagePast;
        final long[] imageSet;
        final int[] imageActs;
        long set;
        int acts;

        Marks() {
            past = new long[ACTS_MOST];
            imagePast = new long[IMAGES * ACTS_MOST];
            imageSet = new long[IMAGES];
            imageActs = new int[IMAGES];
            reset();
        }

        void reset() {
            set = 0;
            acts = 0;
            for (int k = 0; k < IMAGES; k++) {
                imageActs[k] = NONE;
            }
        }

        boolean act(long changed) {
            if (acts >= ACTS_MOST) {
                return false;
            }
            past[acts] = set;
            acts++;
            set = changed;
            return true;
        }

        void keep(int k) {
            imageSet[k] = set;
            imageActs[k] = acts;
            for (int i = 0; i < acts; i++) {
                imagePast[k * ACTS_MOST + i] = past[i];
            }
        }

        boolean bring(int k) {
            if (imageActs[k] == NONE) {
                return false;
            }
            set = imageSet[k];
            acts = imageActs[k];
            for (int i = 0; i < acts; i++) {
                past[i] = imagePast[k * ACTS_MOST + i];
            }
            return true;
        }

        boolean takeBack() {
            if (acts == 0) {
                return false;
            }
            acts--;
            set = past[acts];
            return true;
        }

        /** No act stood on anything: a group comes with nothing marked. */
        void takeAllBack() {
            set = 0;
            acts = 0;
        }
    }
}
