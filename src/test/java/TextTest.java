import java.util.ArrayList;
import java.util.HashSet;
import java.util.List;
import java.util.Random;
import java.util.Set;
import java.util.regex.Matcher;
import java.util.regex.Pattern;

/** Texts by chance, most of them with faults, beside a reader of another kind. */
public final class TextTest {
    private static final Pattern TOKEN = Pattern.compile("[a-z]+|[0-9]+|;|[^ \n]", Pattern.DOTALL);
    private static final String[] PIECES = {
        "group", "bond", "a", "b", "c", "d", "e", "f", "z", "ab", ";", ";", "1", "2", "3", "4", "5", "6",
        "12", "13", "0", "003", "99999999999", " ", "\n", " ", "B", "\0", "\t", "" + (char) 255, ".", "groupbond"};
    private static final Random CHANCE = new Random(11);

    private int fault;
    private int place;
    private int rank;
    private int lines;
    private int[][] m;

    private TextTest() {
    }

    public static void main(String[] args) {
        ReflectionWords x = new ReflectionWords();
        for (int i = 0; i < 200000; i++) {
            askGroup(x, i % 3 == 0 ? pieces() : changed(plain()));
        }
        Check.due("group", Check.group(x, "group 3;bond a b 3;bond b c 3;"), 24);
        for (int i = 0; i < 20000; i++) {
            askElement(x);
        }
        manyBonds(x);
        Check.finish();
    }

    private static String pieces() {
        StringBuilder text = new StringBuilder(CHANCE.nextBoolean() ? "group 3;" : "");
        int n = CHANCE.nextInt(12);
        for (int i = 0; i < n; i++) {
            text.append(PIECES[CHANCE.nextInt(PIECES.length)]);
            text.append(CHANCE.nextInt(3) == 0 ? "" : " ");
        }
        return text.toString();
    }

    private static String blanks() {
        return CHANCE.nextInt(6) == 0 ? " \n" : " ";
    }

    private static String plain() {
        int rank = 1 + CHANCE.nextInt(5);
        StringBuilder text = new StringBuilder("group" + blanks() + rank + ";");
        for (int i = CHANCE.nextInt(4); i > 0 && rank > 1; i--) {
            text.append("bond").append(blanks()).append((char) ('a' + CHANCE.nextInt(rank))).append(blanks());
            text.append((char) ('a' + CHANCE.nextInt(rank))).append(blanks()).append(3 + CHANCE.nextInt(4)).append(";");
        }
        return text.toString();
    }

    private static String changed(String text) {
        StringBuilder answer = new StringBuilder(text);
        for (int n = CHANCE.nextInt(3); n > 0 && answer.length() > 0; n--) {
            int i = CHANCE.nextInt(answer.length());
            switch (CHANCE.nextInt(4)) {
                case 0:
                    answer.deleteCharAt(i);
                    break;
                case 1:
                    answer.insert(i, PIECES[CHANCE.nextInt(PIECES.length)]);
                    break;
                case 2:
                    answer.setLength(i);
                    break;
                default:
                    answer.setCharAt(i, (char) CHANCE.nextInt(128));
                    break;
            }
        }
        return answer.toString();
    }

    private static void askGroup(ReflectionWords x, String text) {
        TextTest read = new TextTest();
        read.read(text);
        int many = x.count(1);
        int ranks = x.count(0);
        int got = Check.group(x, text);
        String call = text.replace('\n', '_');
        Check.due(call + " fault", x.fault(0), read.fault);
        Check.due(call + " place", x.fault(1), read.place);
        Check.due(call + " tape", x.count(6), 0);
        if (read.fault != 0) {
            Check.due(call, got, -4);
        }
        if (got < 0) {
            Check.due(call + " elements stay", x.count(1), many);
            Check.due(call + " rank stays", x.count(0), ranks);
            return;
        }
        Check.due(call + " elements", x.count(1), got);
        Check.due(call + " lines", x.count(4), read.lines);
        Check.due(call + " rank", x.count(0), read.rank);
        for (int a = 0; a < read.rank; a++) {
            for (int b = 0; b < read.rank; b++) {
                Check.due(call + " bond " + a + " " + b, x.bond(a, b), a == b ? 1 : Math.max(2, read.m[a][b]));
            }
        }
    }

    private static void askElement(ReflectionWords x) {
        StringBuilder text = new StringBuilder();
        String[] pieces = {"a", "b", "c", "abc", "cab", " ", "\n", " ", "d", "z", "7", ";", "A", "\0"};
        for (int n = CHANCE.nextInt(9); n > 0; n--) {
            text.append(pieces[CHANCE.nextInt(CHANCE.nextInt(3) == 0 ? pieces.length : 8)]);
        }
        int fault = 0;
        int place = -1;
        int want = 0;
        Matcher tokens = TOKEN.matcher(text);
        while (fault == 0 && tokens.find()) {
            String token = tokens.group();
            if (!token.matches("[a-z]+")) {
                fault = 1;
                place = tokens.start();
            } else if (!token.matches("[abc]+")) {
                fault = 2;
                place = tokens.start();
            } else {
                for (char c : token.toCharArray()) {
                    want = x.times(want, c - 'a' + 1);
                }
            }
        }
        Check.due(text.toString(), Check.element(x, text.toString()), fault == 0 ? want : -4);
        Check.due(text + " fault", x.fault(0), fault);
        Check.due(text + " place", x.fault(1), place);
    }

    /** A group with three bonds or more has more than 60 elements. */
    private static void manyBonds(ReflectionWords x) {
        for (int n = 0; n < 5000; n++) {
            int rank = 3 + CHANCE.nextInt(3);
            StringBuilder text = new StringBuilder("group " + rank + ";");
            int bonds = 0;
            for (int a = 0; a < rank; a++) {
                for (int b = a + 1; b < rank; b++) {
                    if (CHANCE.nextInt(3) > 0) {
                        text.append("bond ").append((char) ('a' + a)).append(' ').append((char) ('a' + b));
                        text.append(' ').append(3 + CHANCE.nextInt(10)).append(';');
                        bonds++;
                    }
                }
            }
            if (bonds > 2) {
                Check.due(text.toString(), Check.group(x, text.toString()), -5);
            }
        }
    }

    /** Each token's kind of place follows from how many tokens of its line stood ahead of it. */
    private void read(String text) {
        place = -1;
        Matcher tokens = TOKEN.matcher(text);
        List<String> line = new ArrayList<>();
        Set<String> told = new HashSet<>();
        while (tokens.find()) {
            String token = tokens.group();
            fault = lines == 0 ? faultOfGroup(line, token) : faultOfBond(line, token, told);
            if (fault != 0) {
                place = tokens.start();
                return;
            }
            line.add(token);
            if (token.equals(";")) {
                tell(line, told);
                lines++;
                line.clear();
            }
        }
        if (!line.isEmpty()) {
            fault = 1;
            place = text.length();
        }
    }

    private static int faultOfGroup(List<String> line, String token) {
        switch (line.size()) {
            case 0:
                return token.equals("group") ? 0 : 1;
            case 1:
                return !token.matches("[0-9]+") ? 1 : token.matches("0*[1-5]") ? 0 : 2;
            default:
                return token.equals(";") ? 0 : 1;
        }
    }

    private int faultOfBond(List<String> line, String token, Set<String> told) {
        switch (line.size()) {
            case 0:
                return token.equals("bond") ? 0 : 1;
            case 1:
                return !token.matches("[a-z]") ? 1 : token.charAt(0) < 'a' + rank ? 0 : 2;
            case 2:
                if (!token.matches("[a-z]")) {
                    return 1;
                }
                boolean wrong = token.charAt(0) >= 'a' + rank || token.equals(line.get(1));
                return wrong || told.contains(line.get(1) + token) || told.contains(token + line.get(1)) ? 2 : 0;
            case 3:
                return !token.matches("[0-9]+") ? 1 : token.matches("0*([3-9]|1[0-2])") ? 0 : 2;
            default:
                return token.equals(";") ? 0 : 1;
        }
    }

    private void tell(List<String> line, Set<String> told) {
        if (lines == 0) {
            rank = Integer.parseInt(line.get(1));
            m = new int[rank][rank];
            return;
        }
        int a = line.get(1).charAt(0) - 'a';
        int b = line.get(2).charAt(0) - 'a';
        m[a][b] = Integer.parseInt(line.get(3));
        m[b][a] = m[a][b];
        told.add(line.get(1) + line.get(2));
    }
}
