import java.util.ArrayDeque;
import java.util.ArrayList;
import java.util.HashMap;
import java.util.LinkedHashSet;
import java.util.List;
import java.util.Map;
import java.util.TreeSet;

/**
 * The same group as the document's words tell it, found by other means than the class has:
 * rows of letters are texts that moves lead from one to another, polynomials follow from the
 * sums that define them, what lies below comes of all sets of places.
 */
final class Oracle {
    final int rank;
    final int[][] m;
    final List<String> words = new ArrayList<>();
    final List<List<String>> spelled = new ArrayList<>();
    final int many;
    final int[][] times;
    final int[] inverse;
    final int[] length;
    final boolean[][] below;
    final long[][] inside;
    final List<Integer> reflections = new ArrayList<>();
    final int[] mirrors;
    final int[][][] r;
    final int[][][] p;
    final int[][] mu;
    final boolean[][][] reach = new boolean[3][][];
    private final Map<String, Integer> numbers = new HashMap<>();

    /** bonds: m[i][j], 2 where none is told. */
    Oracle(int rank, int[][] m) {
        this.rank = rank;
        this.m = m;
        findWords();
        many = words.size();
        times = new int[many][many];
        inverse = new int[many];
        length = new int[many];
        below = new boolean[many][many];
        inside = new long[many][many];
        mirrors = new int[many];
        r = new int[many][many][];
        p = new int[many][many][];
        mu = new int[many][many];
        fillTimes();
        fillBelow();
        fillMirrors();
        fillR();
        fillP();
        for (int kind = 0; kind < 3; kind++) {
            fillReach(kind);
        }
    }

    static boolean isSmall(int rank, int[][] m) {
        TreeSet<String> layer = new TreeSet<>();
        layer.add("");
        int all = 1;
        while (!layer.isEmpty() && all <= 60) {
            TreeSet<String> next = new TreeSet<>();
            for (String word : layer) {
                for (int s = 0; s < rank; s++) {
                    String row = least(word + (char) ('a' + s), m);
                    if (row.length() > word.length()) {
                        next.add(row);
                    }
                }
            }
            all += next.size();
            layer = next;
        }
        return all <= 60;
    }

    private void findWords() {
        TreeSet<String> layer = new TreeSet<>();
        layer.add("");
        while (!layer.isEmpty()) {
            TreeSet<String> next = new TreeSet<>();
            for (String word : layer) {
                numbers.put(word, words.size());
                words.add(word);
                spelled.add(new ArrayList<>(new TreeSet<>(moved(word, m))));
                for (int s = 0; s < rank; s++) {
                    String row = least(word + (char) ('a' + s), m);
                    if (row.length() > word.length()) {
                        next.add(row);
                    }
                }
            }
            layer = next;
        }
    }

    /** All rows that moves lead to. */
    private static LinkedHashSet<String> moved(String row, int[][] m) {
        LinkedHashSet<String> seen = new LinkedHashSet<>();
        ArrayDeque<String> queue = new ArrayDeque<>();
        seen.add(row);
        queue.add(row);
        while (!queue.isEmpty()) {
            for (String next : oneMove(queue.remove(), m)) {
                if (seen.add(next)) {
                    queue.add(next);
                }
            }
        }
        return seen;
    }

    private static List<String> oneMove(String row, int[][] m) {
        List<String> answer = new ArrayList<>();
        for (int a = 0; a < m.length; a++) {
            for (int b = 0; b < m.length; b++) {
                if (a == b) {
                    continue;
                }
                String old = byTurns(a, b, m[a][b]);
                for (int i = row.indexOf(old); i >= 0; i = row.indexOf(old, i + 1)) {
                    answer.add(row.substring(0, i) + byTurns(b, a, m[a][b]) + row.substring(i + old.length()));
                }
            }
        }
        return answer;
    }

    private static String byTurns(int a, int b, int n) {
        StringBuilder text = new StringBuilder();
        for (int i = 0; i < n; i++) {
            text.append((char) ('a' + (i % 2 == 0 ? a : b)));
        }
        return text.toString();
    }

    /** The least of the shortest rows of what a row is. */
    private static String least(String row, int[][] m) {
        String now = row;
        while (true) {
            String shorter = null;
            LinkedHashSet<String> all = moved(now, m);
            for (String text : all) {
                for (int i = 0; i + 1 < text.length(); i++) {
                    if (text.charAt(i) == text.charAt(i + 1)) {
                        shorter = text.substring(0, i) + text.substring(i + 2);
                    }
                }
            }
            if (shorter == null) {
                return new TreeSet<>(all).first();
            }
            now = shorter;
        }
    }

    private void fillTimes() {
        int[][] by = new int[many][rank];
        for (int x = 0; x < many; x++) {
            length[x] = words.get(x).length();
            for (int s = 0; s < rank; s++) {
                by[x][s] = numbers.get(least(words.get(x) + (char) ('a' + s), m));
            }
        }
        for (int x = 0; x < many; x++) {
            for (int y = 0; y < many; y++) {
                int z = x;
                for (char c : words.get(y).toCharArray()) {
                    z = by[z][c - 'a'];
                }
                times[x][y] = z;
                if (z == 0) {
                    inverse[x] = y;
                }
            }
        }
    }

    int letter(int s) {
        return numbers.get("" + (char) ('a' + s));
    }

    /** What a row of letters is. */
    int of(String row) {
        int x = 0;
        for (char c : row.toCharArray()) {
            x = times[x][letter(c - 'a')];
        }
        return x;
    }

    private void fillBelow() {
        for (int w = 0; w < many; w++) {
            String word = words.get(w);
            for (int places = 0; places < 1 << word.length(); places++) {
                int x = 0;
                for (int i = 0; i < word.length(); i++) {
                    if ((places >> i & 1) == 1) {
                        x = times[x][letter(word.charAt(i) - 'a')];
                    }
                }
                below[x][w] = true;
                if (length[x] == Integer.bitCount(places)) {
                    inside[w][x]++;
                }
            }
        }
    }

    private void fillMirrors() {
        TreeSet<Integer> all = new TreeSet<>();
        for (int x = 0; x < many; x++) {
            for (int s = 0; s < rank; s++) {
                all.add(times[times[x][letter(s)]][inverse[x]]);
            }
        }
        reflections.addAll(all);
        java.util.Arrays.fill(mirrors, -1);
        mirrors[0] = 0;
        ArrayDeque<Integer> queue = new ArrayDeque<>(List.of(0));
        while (!queue.isEmpty()) {
            int x = queue.remove();
            for (int t : reflections) {
                int y = times[x][t];
                if (mirrors[y] < 0) {
                    mirrors[y] = mirrors[x] + 1;
                    queue.add(y);
                }
            }
        }
    }

    boolean shorter(int x, int s, int side) {
        return length[side == 0 ? times[letter(s)][x] : times[x][letter(s)]] < length[x];
    }

    int descents(int x, int side) {
        int answer = 0;
        for (int s = 0; s < rank; s++) {
            if (shorter(x, s, side)) {
                answer |= 1 << s;
            }
        }
        return answer;
    }

    private void fillR() {
        for (int w = 0; w < many; w++) {
            for (int v = 0; v < many; v++) {
                r[v][w] = findR(v, w);
            }
        }
    }

    private int[] findR(int v, int w) {
        int[] answer = new int[64];
        if (!below[v][w]) {
            return answer;
        }
        if (v == w) {
            answer[0] = 1;
            return answer;
        }
        int s = rank - 1;
        while (!shorter(w, s, 1)) {
            s--;
        }
        int vs = times[v][letter(s)];
        int ws = times[w][letter(s)];
        if (shorter(v, s, 1)) {
            return r[vs][ws];
        }
        for (int k = 0; k < 63; k++) {
            answer[k + 1] += r[vs][ws][k] + r[v][ws][k];
            answer[k] -= r[v][ws][k];
        }
        return answer;
    }

    private void fillP() {
        for (int n = 0; n < 64; n++) {
            for (int v = 0; v < many; v++) {
                for (int w = 0; w < many; w++) {
                    if (below[v][w] && length[w] - length[v] == n) {
                        p[v][w] = findP(v, w, n);
                        mu[v][w] = n % 2 == 1 ? p[v][w][(n - 1) / 2] : 0;
                    }
                }
            }
        }
        for (int v = 0; v < many; v++) {
            for (int w = 0; w < many; w++) {
                if (p[v][w] == null) {
                    p[v][w] = new int[64];
                }
            }
        }
    }

    private int[] findP(int v, int w, int n) {
        int[] answer = new int[64];
        if (n == 0) {
            answer[0] = 1;
            return answer;
        }
        int[] sum = new int[128];
        for (int x = 0; x < many; x++) {
            if (x != v && below[v][x] && below[x][w]) {
                for (int i = 0; i < 64; i++) {
                    for (int j = 0; j < 64 && r[v][x][i] != 0; j++) {
                        sum[i + j] += r[v][x][i] * p[x][w][j];
                    }
                }
            }
        }
        for (int k = 0; k <= (n - 1) / 2; k++) {
            answer[k] = -sum[k];
        }
        for (int k = 0; k <= n; k++) {
            if (sum[k] != (n - k < 64 ? answer[n - k] : 0) - answer[k]) {
                throw new IllegalStateException("no P of " + v + ", " + w);
            }
        }
        return answer;
    }

    private void fillReach(int kind) {
        boolean[][] to = new boolean[many][many];
        for (int y = 0; y < many; y++) {
            ArrayDeque<Integer> queue = new ArrayDeque<>(List.of(y));
            to[y][y] = true;
            while (!queue.isEmpty()) {
                int z = queue.remove();
                for (int x = 0; x < many; x++) {
                    if (!to[y][x] && isEdge(z, x, kind)) {
                        to[y][x] = true;
                        queue.add(x);
                    }
                }
            }
        }
        reach[kind] = to;
    }

    private boolean isEdge(int y, int x, int kind) {
        if (x == y || mu[x][y] == 0 && mu[y][x] == 0) {
            return false;
        }
        for (int side = 0; side < 2; side++) {
            for (int s = 0; s < rank; s++) {
                if ((kind == 2 || kind == side) && shorter(x, s, side) && !shorter(y, s, side)) {
                    return true;
                }
            }
        }
        return false;
    }

    long cellOf(int x, int kind) {
        long answer = 0;
        for (int y = 0; y < many; y++) {
            if (reach[kind][x][y] && reach[kind][y][x]) {
                answer |= 1L << y;
            }
        }
        return answer;
    }

    long interval(int v, int w) {
        long answer = 0;
        for (int x = 0; x < many; x++) {
            if (below[v][x] && below[x][w]) {
                answer |= 1L << x;
            }
        }
        return answer;
    }

    boolean covers(int low, int high) {
        return below[low][high] && length[high] - length[low] == 1;
    }

    long[] chainsFrom(int v) {
        long[] answer = new long[many];
        answer[v] = 1;
        for (int n = length[v] + 1; n < 64; n++) {
            for (int x = 0; x < many; x++) {
                for (int y = 0; y < many && length[x] == n; y++) {
                    answer[x] += covers(y, x) ? answer[y] : 0;
                }
            }
        }
        return answer;
    }

    /** Elements of letters of a set alone. */
    TreeSet<Integer> part(int letters) {
        TreeSet<Integer> all = new TreeSet<>(List.of(0));
        ArrayDeque<Integer> queue = new ArrayDeque<>(List.of(0));
        while (!queue.isEmpty()) {
            int x = queue.remove();
            for (int s = 0; s < rank; s++) {
                if ((letters >> s & 1) == 1 && all.add(times[x][letter(s)])) {
                    queue.add(times[x][letter(s)]);
                }
            }
        }
        return all;
    }

    int least(int x, int letters) {
        int answer = many;
        for (int y : part(letters)) {
            answer = Math.min(answer, times[x][y]);
        }
        return answer;
    }

    int longest(int letters) {
        int answer = 0;
        for (int y : part(letters)) {
            answer = length[y] > length[answer] ? y : answer;
        }
        return answer;
    }

    int[][] hecke(int v, int w) {
        int[][] now = new int[many][64];
        now[v][0] = 1;
        for (char c : words.get(w).toCharArray()) {
            int[][] next = new int[many][64];
            for (int x = 0; x < many; x++) {
                int xs = times[x][letter(c - 'a')];
                for (int k = 0; k < 63; k++) {
                    if (length[xs] > length[x]) {
                        next[xs][k] += now[x][k];
                    } else {
                        next[xs][k + 1] += now[x][k];
                        next[x][k + 1] += now[x][k];
                        next[x][k] -= now[x][k];
                    }
                }
            }
            now = next;
        }
        return now;
    }

    boolean weakly(int v, int w, int side) {
        for (int x = 0; x < many; x++) {
            int made = side == 1 ? times[v][x] : times[x][v];
            if (made == w && length[v] + length[x] == length[w]) {
                return true;
            }
        }
        return false;
    }

    int meet(int v, int w, int side) {
        return only(v, w, side, false);
    }

    int join(int v, int w, int side) {
        return only(v, w, side, true);
    }

    private int only(int v, int w, int side, boolean above) {
        int best = -1;
        int alike = 0;
        for (int x = 0; x < many; x++) {
            boolean fits = above ? weakly(v, x, side) && weakly(w, x, side) : weakly(x, v, side) && weakly(x, w, side);
            if (!fits) {
                continue;
            }
            int more = best < 0 ? 1 : above ? length[best] - length[x] : length[x] - length[best];
            if (more > 0) {
                best = x;
                alike = 1;
            } else if (more == 0) {
                alike++;
            }
        }
        if (alike != 1) {
            throw new IllegalStateException("several of " + v + ", " + w);
        }
        return best;
    }

    int[] movesFrom(int x, int k) {
        List<String> rows = spelled.get(x);
        int[] far = new int[rows.size()];
        java.util.Arrays.fill(far, -1);
        far[k] = 0;
        ArrayDeque<Integer> queue = new ArrayDeque<>(List.of(k));
        while (!queue.isEmpty()) {
            int i = queue.remove();
            for (String next : oneMove(rows.get(i), m)) {
                int j = rows.indexOf(next);
                if (far[j] < 0) {
                    far[j] = far[i] + 1;
                    queue.add(j);
                }
            }
        }
        return far;
    }

    long[] pathsFrom(int x, int n) {
        long[] now = new long[many];
        now[x] = 1;
        for (int i = 0; i < n; i++) {
            long[] next = new long[many];
            for (int y = 0; y < many; y++) {
                for (int t : reflections) {
                    if (length[times[y][t]] > length[y]) {
                        next[times[y][t]] += now[y];
                    }
                }
            }
            now = next;
        }
        return now;
    }

    TreeSet<Integer> turned(int x) {
        TreeSet<Integer> all = new TreeSet<>();
        for (int y = 0; y < many; y++) {
            all.add(times[times[inverse[y]][x]][y]);
        }
        return all;
    }
}
