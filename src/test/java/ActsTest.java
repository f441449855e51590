import java.util.ArrayList;
import java.util.List;
import java.util.Random;
import java.util.TreeSet;

/** Acts, images and what follows from the marked ones, by chance, beside lists of sets. */
public final class ActsTest {
    private static final Random CHANCE = new Random(5);

    private final ReflectionWords x;
    private final Oracle o;
    /** What was marked ahead of each act, and what is marked now as the last one. */
    private List<TreeSet<Integer>> states = new ArrayList<>();
    private final List<List<TreeSet<Integer>>> images = new ArrayList<>();

    private ActsTest(ReflectionWords x, Groups group) {
        this.x = x;
        this.o = new Oracle(group.rank, group.m);
        states.add(new TreeSet<>());
        for (int k = 0; k < 3; k++) {
            images.add(null);
        }
    }

    public static void main(String[] args) {
        ReflectionWords x = new ReflectionWords();
        Groups[] groups = {
            Groups.of(1), Groups.of(2, 0, 1, 3), Groups.of(3, 0, 1, 3, 1, 2, 3), Groups.of(3, 0, 1, 4, 1, 2, 3),
            Groups.of(5), Groups.of(4, 0, 2, 3, 1, 3, 5), Groups.of(2)};
        for (int n = 0; n < 20; n++) {
            for (Groups group : groups) {
                Check.group(x, group.text);
                ActsTest test = new ActsTest(x, group);
                for (int i = 0; i < 300; i++) {
                    test.step();
                    test.ask();
                }
            }
        }
        Check.finish();
    }

    private TreeSet<Integer> marked() {
        return states.get(states.size() - 1);
    }

    private boolean isFull() {
        return states.size() > 30;
    }

    private void step() {
        int what = CHANCE.nextInt(40);
        int k = CHANCE.nextInt(5) - 1;
        boolean fits = k >= 0 && k < 3;
        if (what < 14) {
            mark(CHANCE.nextInt(o.many + 2) - 1);
        } else if (what < 20) {
            thin();
        } else if (what < 27) {
            shift(CHANCE.nextInt(o.rank + 2) - 1);
        } else if (what < 31) {
            Check.due("image " + k, x.image(k), fits ? 0 : -2);
            if (fits) {
                images.set(k, new ArrayList<>(states));
            }
        } else if (what < 34) {
            boolean kept = fits && images.get(k) != null;
            Check.due("back " + k, x.back(k), !fits ? -2 : kept ? 0 : -6);
            states = kept ? new ArrayList<>(images.get(k)) : states;
        } else if (what < 39) {
            Check.due("undo", x.undo(), states.size() == 1 ? -5 : states.size() - 2);
            if (states.size() > 1) {
                states.remove(states.size() - 1);
            }
        } else {
            Check.due("anew", x.anew(), states.size() - 1);
            states = new ArrayList<>(states.subList(0, 1));
        }
    }

    private void mark(int element) {
        if (element < 0 || element >= o.many || isFull()) {
            Check.due("mark", x.mark(element), element < 0 || element >= o.many ? -2 : -5);
            return;
        }
        TreeSet<Integer> next = new TreeSet<>(marked());
        if (!next.remove(element)) {
            next.add(element);
        }
        Check.due("mark", x.mark(element), next.size());
        states.add(next);
    }

    private void thin() {
        if (isFull()) {
            Check.due("thin", x.thin(), -5);
            return;
        }
        TreeSet<Integer> next = highest(marked());
        Check.due("thin", x.thin(), marked().size() - next.size());
        states.add(next);
    }

    private void shift(int letter) {
        if (letter < 0 || letter >= o.rank || isFull()) {
            Check.due("shift", x.shift(letter), letter < 0 || letter >= o.rank ? -2 : -5);
            return;
        }
        TreeSet<Integer> next = new TreeSet<>();
        for (int e : marked()) {
            next.add(o.times[e][o.letter(letter)]);
        }
        Check.due("shift", x.shift(letter), next.size());
        states.add(next);
    }

    private TreeSet<Integer> highest(TreeSet<Integer> set) {
        TreeSet<Integer> answer = new TreeSet<>();
        for (int e : set) {
            boolean high = true;
            for (int f : set) {
                high &= e == f || !o.below[e][f];
            }
            if (high) {
                answer.add(e);
            }
        }
        return answer;
    }

    private static long bits(TreeSet<Integer> set) {
        long answer = 0;
        for (int e : set) {
            answer |= 1L << e;
        }
        return answer;
    }

    private void ask() {
        TreeSet<Integer> ideal = new TreeSet<>();
        for (int e = 0; e < o.many; e++) {
            for (int f : marked()) {
                if (o.below[e][f]) {
                    ideal.add(e);
                }
            }
        }
        Check.due("marked", x.marked(), bits(marked()));
        Check.due("ideal", x.ideal(), bits(ideal));
        Check.due("peaks", x.peaks(), bits(highest(ideal)));
        Check.due("acts", x.count(5), states.size() - 1);
    }
}
