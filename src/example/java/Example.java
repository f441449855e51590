/** Two letters, a and b; ab three times over is nothing: six elements. */
public final class Example {
    private Example() {
    }

    public static void main(String[] args) {
        ReflectionWords x = new ReflectionWords();
        put(x, "group 2;\nbond a b 3;");
        System.out.println("elements: " + x.group());

        put(x, "bab");
        int longest = x.element();
        System.out.println("bab is number " + longest + ", its word is " + word(x, longest));
        System.out.println("it can be spelled in so many ways: " + x.spellings(longest));
        System.out.println("a, b behind it: " + word(x, x.times(1, 2)));
        System.out.println("number 0 of P of 0 and bab: " + x.p(0, longest, 0));

        System.out.println("marked: " + x.mark(3));
        System.out.println("below what is marked, as bits: " + Long.toBinaryString(x.ideal()));
        System.out.println("acts when the latest is taken back: " + x.undo());

        System.out.println("length of an element that is none: " + x.length(6));
        put(x, "group 6;");
        System.out.println("group 6; is told: " + x.group());
        System.out.println("fault " + x.fault(0) + " at byte " + x.fault(1));
        System.out.println("elements, as they were: " + x.count(1));
    }

    /** Puts a text of at most 300 bytes on the tape, which is empty ahead of it. */
    private static void put(ReflectionWords x, String text) {
        for (int i = 0; i < text.length(); i += 20) {
            x.feed(four(text, i), four(text, i + 4), four(text, i + 8), four(text, i + 12), four(text, i + 16));
        }
        x.end(text.length());
    }

    /** Four bytes as one number, the first one highest; 0 behind the text's end. */
    private static int four(String text, int from) {
        int number = 0;
        for (int i = from; i < from + 4; i++) {
            number = number << 8 | (i < text.length() ? text.charAt(i) : 0);
        }
        return number;
    }

    private static String word(ReflectionWords x, int element) {
        StringBuilder word = new StringBuilder();
        for (int i = 0; i < x.length(element); i++) {
            word.append((char) ('a' + x.letter(element, i)));
        }
        return word.toString();
    }
}
