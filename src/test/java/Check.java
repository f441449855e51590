/** What the tests have in common: counting wrong answers, and putting texts on the tape. */
final class Check {
    private static int wrong = 0;
    private static int asked = 0;

    private Check() {
    }

    static void due(String call, long got, long want) {
        asked++;
        if (got != want) {
            wrong++;
            if (wrong <= 40) {
                System.out.println(call + " answered " + got + ", due is " + want);
            }
        }
    }

    static int wrong() {
        return wrong;
    }

    static int asked() {
        return asked;
    }

    static void finish() {
        System.out.println(asked + " answers, " + wrong + " wrong");
        if (wrong != 0 || asked == 0) {
            System.exit(1);
        }
    }

    /** Puts the bytes of a text on the (empty) tape. */
    static void put(ReflectionWords x, String text) {
        for (int i = 0; i < text.length(); i += 20) {
            x.feed(four(text, i), four(text, i + 4), four(text, i + 8), four(text, i + 12), four(text, i + 16));
        }
        x.end(text.length());
    }

    private static int four(String text, int from) {
        int number = 0;
        for (int i = from; i < from + 4; i++) {
            number = number << 8 | (i < text.length() ? text.charAt(i) & 255 : 0);
        }
        return number;
    }

    static ReflectionWords of(String text) {
        ReflectionWords x = new ReflectionWords();
        put(x, text);
        x.group();
        return x;
    }

    static int group(ReflectionWords x, String text) {
        put(x, text);
        return x.group();
    }

    static int element(ReflectionWords x, String text) {
        put(x, text);
        return x.element();
    }
}
