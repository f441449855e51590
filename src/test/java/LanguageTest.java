import java.io.IOException;
import java.lang.reflect.Constructor;
import java.lang.reflect.Field;
import java.lang.reflect.Method;
import java.lang.reflect.Modifier;
import java.nio.file.Files;
import java.nio.file.Path;
import java.util.HashSet;
import java.util.Set;
import java.util.TreeSet;
import java.util.regex.Matcher;
import java.util.regex.Pattern;

/** The face of the document, and those rules of LANGUAGE.md that can be seen in the file or in the class. */
public final class LanguageTest {
    static final String FACE =
        "int feed 5,int end 1,int group 0,int fault 1,int count 1,int bond 2,int length 1,int letter 2,int element 0,"
        + "long spellings 1,int spelled 3,int times 2,int inverse 1,int order 1,int descents 2,int reflection 1,"
        + "int below 2,long covers 2,long interval 2,int layer 3,long chains 2,int layers 1,int r 3,int p 3,"
        + "int degree 2,int mu 2,int at 3,int q 3,int smooth 1,int tallest 0,int crooked 0,int crookedPair 1,"
        + "int cell 2,long cellOf 2,int cellMany 1,int under 3,int product 3,int least 2,int longest 1,long inside 2,"
        + "int hecke 4,int weakly 3,int meet 3,int join 3,int moves 3,long inversions 1,int mirrors 1,int mirror 1,"
        + "int cosets 1,int coset 2,int pBy 4,int weakMany 2,long paths 3,int sided 2,int euler 2,int conjugate 1,"
        + "int conjugates 1,long ideal 0,long peaks 0,long marked 0,int mark 1,int thin 0,int shift 1,int image 1,"
        + "int back 1,int undo 0,int anew 0";

    private LanguageTest() {
    }

    public static void main(String[] args) throws IOException {
        face();
        for (Class<?> inside : ReflectionWords.class.getDeclaredClasses()) {
            inside(inside);
        }
        Check.due("classes", ReflectionWords.class.getDeclaredClasses().length <= 11 ? 1 : 0, 1);
        text(Files.readString(Path.of("src/main/java/ReflectionWords.java")));
        Check.finish();
    }

    private static void yes(String rule, boolean holds) {
        Check.due(rule, holds ? 1 : 0, 1);
    }

    private static void face() {
        Set<String> due = new TreeSet<>(Set.of(FACE.split(",")));
        Set<String> got = new TreeSet<>();
        for (Method method : ReflectionWords.class.getDeclaredMethods()) {
            int open = Modifier.PUBLIC | Modifier.PROTECTED | Modifier.PRIVATE;
            if ((method.getModifiers() & open) != Modifier.PRIVATE) {
                got.add(method.getReturnType() + " " + method.getName() + " " + method.getParameterCount());
                yes("public, not static: " + method, (method.getModifiers() & ~Modifier.FINAL) == Modifier.PUBLIC);
                for (Class<?> type : method.getParameterTypes()) {
                    yes("int: " + method, type == int.class);
                }
            } else {
                yes("name of a public one: " + method, !faceNames().contains(method.getName()));
            }
        }
        yes("face " + got, got.equals(due));
        yes("67 methods", got.size() == 67);
        for (Field field : ReflectionWords.class.getDeclaredFields()) {
            yes("private: " + field, Modifier.isPrivate(field.getModifiers()) || field.getName().equals("NONE"));
        }
        fields(ReflectionWords.class);
        Constructor<?>[] constructors = ReflectionWords.class.getDeclaredConstructors();
        yes("one constructor", constructors.length == 1 && constructors[0].getParameterCount() == 0);
        yes("public", Modifier.isPublic(constructors[0].getModifiers()));
        yes("public final class",
            ReflectionWords.class.getModifiers() == (Modifier.PUBLIC | Modifier.FINAL));
    }

    private static Set<String> faceNames() {
        Set<String> names = new HashSet<>();
        for (String method : FACE.split(",")) {
            names.add(method.split(" ")[1]);
        }
        return names;
    }

    private static void inside(Class<?> inside) {
        yes("static: " + inside, Modifier.isStatic(inside.getModifiers()));
        yes("not public: " + inside, (inside.getModifiers() & (Modifier.PUBLIC | Modifier.PROTECTED)) == 0);
        for (Method method : inside.getDeclaredMethods()) {
            yes("name of a public one: " + method, !faceNames().contains(method.getName()));
            yes("parameters: " + method, method.getParameterCount() <= 7);
        }
        fields(inside);
    }

    private static void fields(Class<?> owner) {
        int own = 0;
        for (Field field : owner.getDeclaredFields()) {
            int modifiers = field.getModifiers();
            yes("static is final: " + field, !Modifier.isStatic(modifiers) || Modifier.isFinal(modifiers));
            own += Modifier.isStatic(modifiers) ? 0 : 1;
        }
        yes("fields of " + owner, own <= 20);
    }

    private static void text(String source) {
        String code = source.replaceAll("(?s)/\\*.*?\\*/", "").replaceAll("//[^\n]*", "");
        String[] ruledOut = {
            "throw", "throws", "try", "catch", "finally", "synchronized", "assert", "import", "package", "lambda",
            "double", "float", "var", "Object", "System", "hashCode", "toString", "Exact", "protected", "volatile",
            "native", "transient", "strictfp", "goto", "Random", "Thread"};
        for (String word : ruledOut) {
            yes("ruled out: " + word, !Pattern.compile("\\b" + word + "\\b|Exact\\b").matcher(code).find());
        }
        yes("no lambda, no method reference", !code.contains("->") && !code.contains("::"));
        yes("no while without an end", !code.contains("while (true)") && !code.contains("for (;;)"));
        for (char sign : source.toCharArray()) {
            if (sign > 126 || sign < 32 && sign != '\n') {
                yes("sign " + (int) sign, false);
            }
        }
        objects(code);
        lengths(source);
    }

    /** Nothing is made but in constructors, so a run's room is that of its objects. */
    private static void objects(String code) {
        Matcher made = Pattern.compile("(?m)^( *).*\\bnew \\w+").matcher(code);
        int many = 0;
        while (made.find()) {
            int start = code.lastIndexOf("() {", made.start());
            String head = code.substring(code.lastIndexOf('\n', start) + 1, start).trim();
            yes("made in a constructor: " + made.group().trim(), head.matches("(public )?[A-Z]\\w*"));
            many++;
        }
        yes("objects are made", many > 10);
    }

    private static void lengths(String source) {
        String[] lines = source.split("\n");
        int start = -1;
        for (int i = 0; i < lines.length; i++) {
            yes("line " + (i + 1) + " is short", lines[i].length() <= 120);
            if (lines[i].matches("( {4}| {8})\\w.*\\) \\{") && !lines[i].contains(" class ")) {
                start = i;
            }
            if (start >= 0 && lines[i].matches("( {4}| {8})\\}")) {
                yes("method at line " + (start + 1) + " is short", i - start <= 60);
                start = -1;
            }
        }
    }
}
