import java.lang.reflect.Field;
import java.lang.reflect.Member;
import java.lang.reflect.Method;
import java.lang.reflect.Modifier;
import java.nio.file.Files;
import java.nio.file.Path;
import java.util.ArrayList;
import java.util.HashSet;
import java.util.List;
import java.util.Random;
import java.util.Set;
import java.util.TreeSet;
import java.util.regex.Matcher;
import java.util.regex.Pattern;

/** The document's face, the rules of LANGUAGE.md that can be looked up, and that no call throws. */
public final class RulesTest {
    private static final Path SOURCE = Path.of("src/main/java/PencilForms.java");
    private static final String[] FACE = {
        "feed1", "end1", "text0", "fault0", "rule1", "cell3", "rank1", "nulls1", "col1", "row1", "chains2", "length2", "steps2",
        "go2", "set4", "open1", "cut2", "mix4", "times3", "swap3", "scramble2", "turn1", "keep1", "back1", "alike1", "sheet3",
        "lay3", "read4", "torn0", "count1"};
    private static final Check CHECK = new Check("RulesTest");

    public static void main(String[] args) throws Exception {
        face();
        fields(PencilForms.class);
        for (Class<?> inside : PencilForms.class.getDeclaredClasses()) {
            fields(inside);
        }
        source();
        neverThrows();
        CHECK.finish();
    }

    private static void face() {
        Class<?> c = PencilForms.class;
        CHECK.that("public and final", Modifier.isPublic(c.getModifiers()) && Modifier.isFinal(c.getModifiers()));
        CHECK.due("constructors", c.getDeclaredConstructors().length, 1);
        CHECK.that("the constructor is public", Modifier.isPublic(c.getDeclaredConstructors()[0].getModifiers()));
        Set<String> open = new TreeSet<>();
        Set<String> names = new HashSet<>();
        for (Method m : c.getDeclaredMethods()) {
            if (!hidden(m)) {
                open.add(m.getName() + m.getParameterCount());
                names.add(m.getName());
                CHECK.that(m + " is a public int", Modifier.isPublic(m.getModifiers()) && !Modifier.isStatic(m.getModifiers()) && m.getReturnType() == int.class);
            }
        }
        CHECK.that("the methods of the face", open.equals(new TreeSet<>(List.of(FACE))));
        List<Method> others = new ArrayList<>(List.of(c.getDeclaredMethods()));
        for (Class<?> inside : c.getDeclaredClasses()) {
            CHECK.that(inside + " is static", Modifier.isStatic(inside.getModifiers()) && !Modifier.isPublic(inside.getModifiers()));
            others.addAll(List.of(inside.getDeclaredMethods()));
        }
        for (Method m : others) {
            CHECK.that(m + " bears no name of the face", m.getDeclaringClass() == c && !hidden(m) || !names.contains(m.getName()));
            CHECK.that(m + " has at most seven parameters", m.getParameterCount() <= 7);
        }
        CHECK.that("at most twelve classes", c.getDeclaredClasses().length <= 11);
    }

    private static boolean hidden(Member m) {
        return Modifier.isPrivate(m.getModifiers()) || m.isSynthetic();
    }

    private static void fields(Class<?> c) {
        int own = 0;
        for (Field f : c.getDeclaredFields()) {
            if (Modifier.isStatic(f.getModifiers())) {
                CHECK.that(f + " is a final number", Modifier.isFinal(f.getModifiers()) && f.getType() == int.class);
            } else {
                own++;
            }
            boolean constant = List.of("BAD", "STATE", "FULL", "NONE").contains(f.getName());
            CHECK.that(f + " is seen as it must be", constant ? Modifier.isPublic(f.getModifiers()) : Modifier.isPrivate(f.getModifiers()));
        }
        CHECK.that(c + " has at most twenty fields", own <= 20);
    }

    private static void source() throws Exception {
        String text = Files.readString(SOURCE);
        String code = text.replaceAll("(?s)/\\*.*?\\*/", "").replaceAll("//[^\n]*", "").replaceAll("\"[^\"\n]*\"", "\"\"");
        for (String word : new String[] {"throw", "throws", "try", "catch", "finally", "synchronized", "assert", "package", "Object",
            "Math\\.\\w*Exact", "Integer\\.MIN", "new Random", "Thread", "equals", "hashCode", "toString", "var"}) {
            CHECK.that("no " + word, !Pattern.compile("\\b" + word + "\\b").matcher(code).find());
        }
        CHECK.that("no lambda, no method reference", !code.contains("->") && !code.contains("::"));
        Matcher imports = Pattern.compile("import ([\\w.*]+);").matcher(code);
        while (imports.find()) {
            CHECK.that("import " + imports.group(1), imports.group(1).equals("java.util.Arrays"));
        }
        Matcher library = Pattern.compile("\\b(System|Arrays|Math)\\.(\\w+)").matcher(code);
        while (library.find()) {
            CHECK.that(library.group(), List.of("arraycopy", "fill", "min", "max").contains(library.group(2)));
        }
        methodsAreShort(text);
    }

    /** A method ends with a brace as far in as its own line. */
    private static void methodsAreShort(String text) {
        String[] lines = text.split("\n");
        Pattern head = Pattern.compile("^( {4}| {8})[\\w\\[\\]][\\w\\[\\] ]*\\(.*\\) \\{$");
        for (int n = 0; n < lines.length; n++) {
            Matcher m = head.matcher(lines[n]);
            if (m.find()) {
                int end = n;
                while (end < lines.length && !lines[end].equals(m.group(1) + "}")) {
                    end++;
                }
                CHECK.that("a method of " + (end - n + 1) + " lines: " + lines[n].trim(), end - n + 1 <= 60);
            }
        }
    }

    /** Any numbers in any state; what is not caught here ends the run with an exception and a bad exit code. */
    private static void neverThrows() throws Exception {
        int[] wild = {Integer.MIN_VALUE, -1000000, -41, -5, -1, 0, 0, 1, 1, 2, 2, 3, 3, 4, 5, 6, 7, 8, 10, 39, 40, 41, 160, 9999, Integer.MAX_VALUE};
        List<Method> methods = new ArrayList<>();
        for (Method m : PencilForms.class.getDeclaredMethods()) {
            if (!hidden(m)) {
                methods.add(m);
            }
        }
        methods.sort((a, b) -> a.getName().compareTo(b.getName()));
        Random random = new Random(31);
        for (int run = 0; run < 600; run++) {
            PencilForms p = new PencilForms();
            if (run % 3 > 0) {
                p.open(0);
                p.open(1);
                p.scramble(run, 3);
            }
            for (int n = 0; n < 512; n++) {
                Method m = methods.get(random.nextInt(methods.size()));
                Object[] a = new Object[m.getParameterCount()];
                for (int i = 0; i < a.length; i++) {
                    a[i] = random.nextInt(6) == 0 ? random.nextInt() : wild[random.nextInt(wild.length)];
                }
                int answer = (Integer) m.invoke(p, a);
                CHECK.that(m.getName() + " answers no less than -170", answer >= -170);
            }
        }
    }
}
