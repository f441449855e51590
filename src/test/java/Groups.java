import java.util.ArrayList;
import java.util.List;

/** Texts of groups, and the numbers that they tell. */
final class Groups {
    final int rank;
    final int[][] m;
    final String text;

    private Groups(int rank, int[][] m) {
        this.rank = rank;
        this.m = m;
        StringBuilder lines = new StringBuilder("group " + rank + ";");
        for (int a = 0; a < rank; a++) {
            for (int b = a + 1; b < rank; b++) {
                if (m[a][b] > 2) {
                    lines.append("bond ").append((char) ('a' + a)).append(' ').append((char) ('a' + b));
                    lines.append(' ').append(m[a][b]).append(';');
                }
            }
        }
        text = lines.toString();
    }

    /** bonds: rows of first letter, second letter, M. */
    static Groups of(int rank, int... bonds) {
        int[][] m = new int[rank][rank];
        for (int a = 0; a < rank; a++) {
            for (int b = 0; b < rank; b++) {
                m[a][b] = a == b ? 1 : 2;
            }
        }
        for (int i = 0; i + 2 < bonds.length; i += 3) {
            m[bonds[i]][bonds[i + 1]] = bonds[i + 2];
            m[bonds[i + 1]][bonds[i]] = bonds[i + 2];
        }
        return new Groups(rank, m);
    }

    /** All groups with at most two bonds: those of at most 60 elements are among them. */
    static List<Groups> withFewBonds() {
        List<Groups> all = new ArrayList<>();
        for (int rank = 1; rank <= 5; rank++) {
            List<int[]> bonds = new ArrayList<>();
            for (int a = 0; a < rank; a++) {
                for (int b = a + 1; b < rank; b++) {
                    for (int n = 3; n <= 12; n++) {
                        bonds.add(new int[] {a, b, n});
                    }
                }
            }
            all.add(of(rank));
            for (int i = 0; i < bonds.size(); i++) {
                int[] one = bonds.get(i);
                all.add(of(rank, one));
                for (int j = i + 1; j < bonds.size(); j++) {
                    int[] two = bonds.get(j);
                    if (one[0] != two[0] || one[1] != two[1]) {
                        all.add(of(rank, one[0], one[1], one[2], two[0], two[1], two[2]));
                    }
                }
            }
        }
        return all;
    }
}
