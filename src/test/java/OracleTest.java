import java.util.ArrayList;
import java.util.List;
import java.util.Random;

/** Every question to every group of at most 60 elements, beside what the oracle finds. */
public final class OracleTest {
    private static final int[] WRONG = {-1, -2, Integer.MIN_VALUE, 60, 63, 64, 1 << 20, Integer.MAX_VALUE};
    private static final Random CHANCE = new Random(7);

    private final ReflectionWords x;
    private final Oracle o;
    private final String name;
    private final int many;

    private OracleTest(ReflectionWords x, Groups group) {
        this.x = x;
        this.o = new Oracle(group.rank, group.m);
        this.name = group.text + " ";
        this.many = o.many;
    }

    public static void main(String[] args) {
        ReflectionWords x = new ReflectionWords();
        List<Groups> small = new ArrayList<>();
        for (Groups group : Groups.withFewBonds()) {
            if (Check.group(x, group.text) >= 0) {
                small.add(group);
            } else if (group.rank < 4) {
                Check.due(group.text + " small", Oracle.isSmall(group.rank, group.m) ? 1 : 0, 0);
            }
        }
        Check.due("groups", small.size(), 121);
        for (Groups group : small) {
            // One object for all: what an earlier group left must not shine through.
            Check.due(group.text, Check.group(x, group.text), new OracleTest(x, group).many);
            new OracleTest(x, group).askAll();
        }
        Check.finish();
    }

    private void due(String call, long got, long want) {
        Check.due(name + call, got, want);
    }

    private void askAll() {
        askNumbers();
        for (int e = 0; e < many; e++) {
            askOne(e);
            askRows(e);
            askSides(e);
            askSets(e);
        }
        for (int v = 0; v < many; v++) {
            long[] chains = o.chainsFrom(v);
            for (int w = 0; w < many; w++) {
                askPair(v, w, chains[w]);
                askPolynomials(v, w);
                askPairSides(v, w);
            }
        }
        askPaths();
        askHecke();
        askProducts();
        askAllPolynomials();
        askCells();
        askLetterSets();
    }

    private void askNumbers() {
        due("count(0)", x.count(0), o.rank);
        due("count(1)", x.count(1), many);
        due("count(2)", x.count(2), o.length[many - 1]);
        due("count(3)", x.count(3), o.reflections.size());
        for (int k = 0; k < 62; k++) {
            int layer = 0;
            for (int e = 0; e < many; e++) {
                layer += o.length[e] == k ? 1 : 0;
            }
            due("layers " + k, x.layers(k), layer);
            due("reflection " + k, x.reflection(k), k < o.reflections.size() ? o.reflections.get(k) : -1);
        }
        for (int a = -1; a <= o.rank; a++) {
            for (int b = -1; b <= o.rank; b++) {
                boolean fits = a >= 0 && b >= 0 && a < o.rank && b < o.rank;
                due("bond " + a + " " + b, x.bond(a, b), fits ? o.m[a][b] : -2);
            }
        }
    }

    private void askOne(int e) {
        due("length " + e, x.length(e), o.length[e]);
        due("inverse " + e, x.inverse(e), o.inverse[e]);
        due("mirrors " + e, x.mirrors(e), o.mirrors[e]);
        int order = 1;
        for (int power = e; power != 0; power = o.times[power][e]) {
            order++;
        }
        due("order " + e, x.order(e), order);
        due("conjugate " + e, x.conjugate(e), o.turned(e).first());
        due("conjugates " + e, x.conjugates(e), o.turned(e).size());
        long inversions = 0;
        int mirror = -1;
        for (int i = o.reflections.size() - 1; i >= 0; i--) {
            int turned = o.times[o.reflections.get(i)][e];
            inversions |= o.length[turned] < o.length[e] ? 1L << i : 0;
            mirror = o.mirrors[turned] < o.mirrors[e] ? i : mirror;
        }
        due("inversions " + e, x.inversions(e), inversions);
        due("mirror " + e, x.mirror(e), mirror);
    }

    private void askRows(int e) {
        String word = o.words.get(e);
        List<String> rows = o.spelled.get(e);
        for (int i = 0; i < word.length() + 2; i++) {
            due("letter " + e + " " + i, x.letter(e, i), i < word.length() ? word.charAt(i) - 'a' : -1);
        }
        due("spellings " + e, x.spellings(e), rows.size());
        for (int k = 0; k <= rows.size(); k++) {
            for (int i = 0; i <= word.length(); i++) {
                boolean fits = k < rows.size() && i < word.length();
                due("spelled " + e + " " + k + " " + i, x.spelled(e, k, i), fits ? rows.get(k).charAt(i) - 'a' : -1);
            }
        }
        StringBuilder longer = new StringBuilder();
        for (int i = 0; i < 40; i++) {
            longer.append((char) ('a' + CHANCE.nextInt(o.rank)));
        }
        due("element", Check.element(x, rows.get(rows.size() - 1)), e);
        due("element " + longer, Check.element(x, longer.toString()), o.of(longer.toString()));
        for (int n = 0; n < 3; n++) {
            int k = CHANCE.nextInt(rows.size());
            int[] far = o.movesFrom(e, k);
            for (int l = 0; l < rows.size(); l += 1 + CHANCE.nextInt(1 + rows.size() / 4)) {
                due("moves " + e + " " + k + " " + l, x.moves(e, k, l), far[l]);
            }
            due("moves " + e + " " + k, x.moves(e, k, rows.size()), -2);
            due("moves " + e + " , " + k, x.moves(e, rows.size(), k), -2);
        }
    }

    private void askSides(int e) {
        for (int side = 0; side < 2; side++) {
            due("descents " + e + " " + side, x.descents(e, side), o.descents(e, side));
            long covers = 0;
            int weak = 0;
            for (int y = 0; y < many; y++) {
                covers |= (side == 0 ? o.covers(y, e) : o.covers(e, y)) ? 1L << y : 0;
                weak += o.weakly(y, e, side) ? 1 : 0;
            }
            due("covers " + e + " " + side, x.covers(e, side), covers);
            due("weakMany " + e + " " + side, x.weakMany(e, side), weak);
        }
        for (int side : new int[] {-1, 2, 3, Integer.MIN_VALUE, Integer.MAX_VALUE}) {
            due("descents of side " + side, x.descents(e, side), -2);
            due("covers of side " + side, x.covers(e, side), -2);
            due("weakMany of side " + side, x.weakMany(e, side), -2);
        }
    }

    private void askSets(int e) {
        for (int letters = 0; letters < 1 << o.rank; letters++) {
            due("least " + e + " " + letters, x.least(e, letters), o.least(e, letters));
        }
        due("least", x.least(e, 1 << o.rank), -2);
        due("least", x.least(e, -1), -2);
    }

    private void askLetterSets() {
        for (int letters = 0; letters < 1 << o.rank; letters++) {
            due("longest " + letters, x.longest(letters), o.longest(letters));
            List<Integer> least = new ArrayList<>();
            for (int e = 0; e < many; e++) {
                if (o.least(e, letters) == e) {
                    least.add(e);
                }
            }
            due("cosets " + letters, x.cosets(letters), least.size());
            for (int i = 0; i < least.size() + 2; i++) {
                due("coset " + letters + " " + i, x.coset(letters, i), i < least.size() ? least.get(i) : -1);
            }
            for (int n = 0; n < 60; n++) {
                askPBy(letters, CHANCE.nextInt(many), CHANCE.nextInt(many));
            }
            for (int behind = 0; behind < 1 << o.rank; behind++) {
                int sided = 0;
                for (int e = 0; e < many; e++) {
                    sided += o.descents(e, 0) == letters && o.descents(e, 1) == behind ? 1 : 0;
                }
                due("sided " + letters + " " + behind, x.sided(letters, behind), sided);
            }
        }
        for (int letters : new int[] {-1, 1 << o.rank, Integer.MIN_VALUE, Integer.MAX_VALUE}) {
            due("longest " + letters, x.longest(letters), -2);
            due("cosets " + letters, x.cosets(letters), -2);
            due("coset " + letters, x.coset(letters, 0), -2);
            due("sided " + letters, x.sided(letters, 0), -2);
            due("sided , " + letters, x.sided(0, letters), -2);
            due("pBy " + letters, x.pBy(letters, 0, 0, 0), -1000000);
        }
    }

    private void askPBy(int letters, int v, int w) {
        int top = o.longest(letters);
        int[] numbers = o.p[o.times[o.least(v, letters)][top]][o.times[o.least(w, letters)][top]];
        for (int k = 0; k < 4; k++) {
            due("pBy " + letters + " " + v + " " + w + " " + k, x.pBy(letters, v, w, k), numbers[k]);
        }
    }

    private void askPair(int v, int w, long chains) {
        String pair = " " + v + " " + w;
        due("times" + pair, x.times(v, w), o.times[v][w]);
        due("below" + pair, x.below(v, w), o.below[v][w] ? 1 : 0);
        long interval = o.interval(v, w);
        due("interval" + pair, x.interval(v, w), interval);
        due("chains" + pair, x.chains(v, w), chains);
        due("inside" + pair, x.inside(v, w), o.inside[v][w]);
        int[] layers = new int[16];
        int euler = 0;
        for (int e = 0; e < many; e++) {
            if ((interval >> e & 1) == 1) {
                layers[o.length[e] - o.length[v]]++;
                euler += o.length[e] % 2 == 0 ? 1 : -1;
            }
        }
        due("euler" + pair, x.euler(v, w), euler);
        for (int k = 0; k < layers.length; k++) {
            due("layer" + pair + " " + k, x.layer(v, w, k), layers[k]);
        }
        due("layer" + pair, x.layer(v, w, Integer.MAX_VALUE), 0);
        due("layer" + pair, x.layer(v, w, -1), -2);
    }

    private void askPolynomials(int v, int w) {
        String pair = " " + v + " " + w;
        int top = many - 1;
        int[] p = o.p[v][w];
        int[] q = o.p[o.times[top][w]][o.times[top][v]];
        int degree = -1;
        for (int k = 0; k < 18; k++) {
            due("r" + pair + " " + k, x.r(v, w, k), o.r[v][w][k]);
            due("p" + pair + " " + k, x.p(v, w, k), p[k]);
            due("q" + pair + " " + k, x.q(v, w, k), q[k]);
            degree = p[k] != 0 ? k : degree;
        }
        due("degree" + pair, x.degree(v, w), degree);
        due("mu" + pair, x.mu(v, w), o.mu[v][w]);
        for (int at = -3; at <= 3; at++) {
            int value = 0;
            int power = 1;
            for (int k = 0; k < 18; k++) {
                value += power * p[k];
                power *= at;
            }
            due("at" + pair + " " + at, x.at(v, w, at), value);
        }
        due("at" + pair, x.at(v, w, 4), -1000000000);
        due("at" + pair, x.at(v, w, -4), -1000000000);
        for (int k : new int[] {-1, Integer.MIN_VALUE}) {
            due("r" + pair + " " + k, x.r(v, w, k), -1000000);
            due("p" + pair + " " + k, x.p(v, w, k), -1000000);
            due("q" + pair + " " + k, x.q(v, w, k), -1000000);
        }
        due("r" + pair, x.r(v, w, Integer.MAX_VALUE), 0);
        due("p" + pair, x.p(v, w, Integer.MAX_VALUE), 0);
        due("q" + pair, x.q(v, w, Integer.MAX_VALUE), 0);
    }

    private void askPairSides(int v, int w) {
        for (int side = 0; side < 2; side++) {
            String pair = " " + v + " " + w + " " + side;
            due("weakly" + pair, x.weakly(v, w, side), o.weakly(v, w, side) ? 1 : 0);
            if ((v * 7 + w * 3 + side) % 5 == 0) {
                due("meet" + pair, x.meet(v, w, side), o.meet(v, w, side));
                due("join" + pair, x.join(v, w, side), o.join(v, w, side));
            }
        }
        for (int side : new int[] {-1, 2}) {
            due("weakly", x.weakly(v, w, side), -2);
            due("meet", x.meet(v, w, side), -2);
            due("join", x.join(v, w, side), -2);
        }
        for (int wrong : WRONG) {
            due("times " + wrong, x.times(v, wrong), -2);
            due("times , " + wrong, x.times(wrong, w), -2);
        }
    }

    private void askPaths() {
        for (int n = 0; n <= 30; n += n < 14 ? 1 : 8) {
            for (int i = 0; i < 8; i++) {
                int v = i == 0 ? 0 : CHANCE.nextInt(many);
                long[] paths = o.pathsFrom(v, n);
                for (int w = 0; w < many; w++) {
                    due("paths " + v + " " + w + " " + n, x.paths(v, w, n), paths[w]);
                }
            }
        }
        due("paths", x.paths(0, 0, -1), -2);
        due("paths", x.paths(0, 0, 30), 0);
        due("paths", x.paths(0, 0, 31), -2);
    }

    private void askHecke() {
        for (int n = 0; n < 12; n++) {
            int v = n == 0 ? many - 1 : CHANCE.nextInt(many);
            int w = n == 0 ? many - 1 : CHANCE.nextInt(many);
            int[][] made = o.hecke(v, w);
            for (int z = 0; z < many; z++) {
                for (int k = 0; k < 17; k += n == 0 ? 1 : 3) {
                    due("hecke " + v + " " + w + " " + z + " " + k, x.hecke(v, w, z, k), made[z][k]);
                }
            }
        }
        due("hecke", x.hecke(0, 0, 0, -1), -1000000);
        due("hecke", x.hecke(0, 0, 0, Integer.MAX_VALUE), 0);
        due("hecke", x.hecke(many, 0, 0, 0), -1000000);
        due("hecke", x.hecke(0, many, 0, 0), -1000000);
        due("hecke", x.hecke(0, 0, many, 0), -1000000);
    }

    private void askProducts() {
        for (int s = 0; s < o.rank; s++) {
            for (int w = 0; w < many; w++) {
                for (int z = 0; z < many; z++) {
                    due("product " + s + " " + w + " " + z, x.product(s, w, z), product(s, w, z));
                }
            }
        }
        due("product", x.product(o.rank, 0, 0), -2);
        due("product", x.product(-1, 0, 0), -2);
        due("product", x.product(0, many, 0), -2);
        due("product", x.product(0, 0, many), -2);
    }

    private int product(int s, int w, int z) {
        if (o.shorter(w, s, 0)) {
            return z == w ? 2 : 0;
        }
        int answer = z == o.times[o.letter(s)][w] ? 1 : 0;
        return answer + (z != w && o.below[z][w] && o.shorter(z, s, 0) ? o.mu[z][w] : 0);
    }

    private void askAllPolynomials() {
        List<Integer> crooked = new ArrayList<>();
        int tallest = 0;
        for (int v = 0; v < many; v++) {
            for (int w = 0; w < many; w++) {
                boolean plain = o.p[v][w][0] == 0 || o.p[v][w][0] == 1;
                for (int k = 0; k < 16; k++) {
                    tallest = Math.max(tallest, o.p[v][w][k]);
                    plain &= k == 0 || o.p[v][w][k] == 0;
                }
                if (!plain) {
                    crooked.add(100 * v + w);
                }
            }
        }
        due("tallest", x.tallest(), tallest);
        due("crooked", x.crooked(), crooked.size());
        for (int i = 0; i < crooked.size() + 2; i++) {
            due("crookedPair " + i, x.crookedPair(i), i < crooked.size() ? crooked.get(i) : -1);
        }
        due("crookedPair", x.crookedPair(-1), -2);
        for (int w = 0; w < many; w++) {
            boolean smooth = true;
            for (int pair : crooked) {
                smooth &= pair % 100 != w;
            }
            due("smooth " + w, x.smooth(w), smooth ? 1 : 0);
        }
    }

    private void askCells() {
        for (int kind = 0; kind < 3; kind++) {
            int cells = 0;
            for (int v = 0; v < many; v++) {
                long cell = o.cellOf(v, kind);
                cells += Long.numberOfTrailingZeros(cell) == v ? 1 : 0;
                due("cellOf " + v + " " + kind, x.cellOf(v, kind), cell);
                due("cell " + v + " " + kind, x.cell(v, kind), Long.numberOfTrailingZeros(cell));
                for (int w = 0; w < many; w++) {
                    due("under " + v + " " + w + " " + kind, x.under(v, w, kind), o.reach[kind][w][v] ? 1 : 0);
                }
            }
            due("cellMany " + kind, x.cellMany(kind), cells);
        }
        for (int kind : new int[] {-1, 3, Integer.MIN_VALUE, Integer.MAX_VALUE}) {
            due("cellMany " + kind, x.cellMany(kind), -2);
            due("cell " + kind, x.cell(0, kind), -2);
            due("cellOf " + kind, x.cellOf(0, kind), -2);
            due("under " + kind, x.under(0, 0, kind), -2);
        }
    }
}
