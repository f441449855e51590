import java.lang.reflect.InvocationTargetException;
import java.lang.reflect.Method;
import java.util.HashMap;
import java.util.Map;
import java.util.Random;

/** Every method with wrong numbers, with and without a group: nothing throws, and each answers its own "none such". */
public final class EdgesTest {
    /**
     * Method, what its numbers are, its answer if one of them is wrong. e: an element, s: a letter, d: a side,
     * c: a kind of cell, l: a set of letters, n: 0 or more, x: -3 .. 3, t: 0 .. 30, i: an image; none: a group must be.
     */
    private static final String[] METHODS = {
        "bond ss -2", "length e -2", "letter en -2", "spellings e -2", "spelled enn -2", "times ee -2", "inverse e -2",
        "order e -2", "descents ed -2", "reflection n -2", "below ee -2", "covers ed -2", "interval ee -2",
        "layer een -2", "chains ee -2", "layers n -2", "r een -1000000", "p een -1000000", "degree ee -2", "mu ee -2",
        "at eex -1000000000", "q een -1000000", "smooth e -2", "tallest - -2", "crooked - -2", "crookedPair n -2",
        "cell ec -2", "cellOf ec -2", "cellMany c -2", "under eec -2", "product see -2", "least el -2", "longest l -2",
        "inside ee -2", "hecke eeen -1000000", "weakly eed -2", "meet eed -2", "join eed -2", "moves enn -2",
        "inversions e -2", "mirrors e -2", "mirror e -2", "cosets l -2", "coset ln -2", "pBy leen -1000000",
        "weakMany ed -2", "paths eet -2", "sided ll -2", "euler ee -2000", "conjugate e -2", "conjugates e -2",
        "ideal - -2", "peaks - -2", "marked - -2", "mark e -2", "thin - -2", "shift s -2", "image i -2", "back i -2",
        "undo - -2", "anew - -2"};
    private static final int[] EDGES = {
        Integer.MIN_VALUE, Integer.MIN_VALUE + 1, -1000, -61, -4, -3, -2, -1, 0, 1, 2, 3, 4, 5, 6, 7, 8, 13, 15, 16, 17,
        23, 24, 29, 30, 31, 32, 33, 47, 48, 59, 60, 61, 63, 64, 65, 100, 127, 128, 240, 255, 300, 3600, 1 << 16,
        1 << 26, 1 << 30, 1 << 31, Integer.MAX_VALUE - 1, Integer.MAX_VALUE};
    private static final Random CHANCE = new Random(3);

    private EdgesTest() {
    }

    public static void main(String[] args) throws IllegalAccessException {
        Map<String, Method> face = new HashMap<>();
        for (Method method : ReflectionWords.class.getMethods()) {
            face.put(method.getName(), method);
        }
        String[] texts = {
            "", "group 1;", "group 2;", "group 2;bond a b 12;", "group 3;bond a b 3;bond b c 3;",
            "group 3;bond a c 4;bond c b 3;", "group 4;bond a b 3;bond c d 5;", "group 5;", "group 5;bond b d 3;",
            "group 3;bond a b 12;"};
        for (String text : texts) {
            ReflectionWords x = Check.of(text);
            for (String line : METHODS) {
                String[] parts = line.split(" ");
                for (int n = 0; n < 1500; n++) {
                    ask(x, text, face.get(parts[0]), parts[1], Long.parseLong(parts[2]));
                }
            }
            askWithoutGroup(x, text);
        }
        Check.finish();
    }

    private static int number(ReflectionWords x, char what) {
        if (CHANCE.nextInt(4) == 0) {
            return EDGES[CHANCE.nextInt(EDGES.length)];
        }
        switch (what) {
            case 'e':
                return CHANCE.nextInt(x.count(1) + 2) - 1;
            case 's':
                return CHANCE.nextInt(x.count(0) + 2) - 1;
            case 'l':
                return CHANCE.nextInt((1 << x.count(0)) + 2) - 1;
            case 'd':
                return CHANCE.nextInt(4) - 1;
            case 'x':
                return CHANCE.nextInt(9) - 4;
            case 't':
                return CHANCE.nextInt(33) - 1;
            default:
                return CHANCE.nextInt(5) - 1;
        }
    }

    private static boolean fits(ReflectionWords x, char what, int number) {
        switch (what) {
            case 'e':
                return number >= 0 && number < x.count(1);
            case 's':
                return number >= 0 && number < x.count(0);
            case 'l':
                return number >= 0 && number < 1 << x.count(0);
            case 'd':
                return number == 0 || number == 1;
            case 'c':
            case 'i':
                return number >= 0 && number < 3;
            case 'x':
                return number >= -3 && number <= 3;
            case 't':
                return number >= 0 && number <= 30;
            default:
                return number >= 0;
        }
    }

    private static void ask(ReflectionWords x, String text, Method method, String kinds, long absent)
            throws IllegalAccessException {
        Object[] numbers = new Object[method.getParameterCount()];
        boolean fits = x.count(1) > 0;
        StringBuilder call = new StringBuilder(text + " " + method.getName());
        for (int i = 0; i < numbers.length; i++) {
            int number = number(x, kinds.charAt(i));
            numbers[i] = number;
            fits &= fits(x, kinds.charAt(i), number);
            call.append(' ').append(number);
        }
        try {
            long got = ((Number) method.invoke(x, numbers)).longValue();
            if (!fits) {
                Check.due(call.toString(), got, absent);
            } else if (method.getName().equals("moves")) {
                long rows = x.spellings((Integer) numbers[0]);
                boolean there = (Integer) numbers[1] < rows && (Integer) numbers[2] < rows;
                Check.due(call + " is there", got == absent ? 1 : 0, there ? 0 : 1);
            } else {
                Check.due(call + " is there", got == absent ? 1 : 0, 0);
            }
        } catch (InvocationTargetException thrown) {
            Check.due(call + " threw " + thrown.getCause(), 1, 0);
        }
    }

    private static void askWithoutGroup(ReflectionWords x, String text) {
        Check.due(text + " emptied", Check.group(x, ""), 0);
        for (int what : EDGES) {
            boolean fits = what >= 0 && what <= 6;
            Check.due(text + " count " + what, x.count(what), fits ? 0 : -1);
            Check.due(text + " fault " + what, x.fault(what), what == 0 ? 0 : -1);
        }
        Check.due(text + " length", x.length(0), -2);
        Check.due(text + " longest", x.longest(0), -2);
    }
}
