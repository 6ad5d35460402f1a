import java.io.IOException;
import java.lang.reflect.Field;
import java.lang.reflect.Method;
import java.lang.reflect.Modifier;
import java.nio.file.Files;
import java.nio.file.Path;
import java.util.ArrayList;
import java.util.Arrays;
import java.util.HashSet;
import java.util.List;
import java.util.Set;
import java.util.TreeSet;
import java.util.regex.Matcher;
import java.util.regex.Pattern;

// The public face is the document's and no more, and the source keeps to rules that can be read off it.
public final class FaceTest {
    private static final String[] FACE = {
        "int profile(int,int,int,int)", "int die(int,int)", "int warm(int)", "int cool(int)",
        "int nitride(int)", "int about(int,int)", "int ready(int)", "int pass(int)", "int law(int,int)",
        "int press(int,int)", "int bar(int,int)", "int order(int,int,int)", "int wanted(int,int)",
        "int pattern(int,int,int)", "int account(int)", "int stock(int)", "int best(int,boolean)",
        "int job(int,int,int)", "int change(int)", "int late()", "int planned(int)", "int room(int)",
        "int age()", "int batches()", "int sample(int,boolean)", "int suspect(int)", "int held()",
        "int drift(int,int)", "int sheet(int,int,int)", "int lose(int)", "int put(int,int,int,int)",
        "int get(int,int,int)", "int copy(int,int,int,int,int)", "int count(int)", "long digest()"};

    private static int wrong = 0;

    private static void must(boolean holds, String what) {
        if (!holds) {
            wrong++;
            System.out.println("not so: " + what);
        }
    }

    private static String signature(Method m) {
        List<String> types = new ArrayList<>();
        for (Class<?> type : m.getParameterTypes()) {
            types.add(type.getName());
        }
        return m.getReturnType().getName() + " " + m.getName() + "(" + String.join(",", types) + ")";
    }

    private static void testMethods() {
        Set<String> open = new TreeSet<>();
        Set<String> openNames = new HashSet<>();
        for (Method m : BilletBars.class.getDeclaredMethods()) {
            if (!Modifier.isPrivate(m.getModifiers())) {
                must(Modifier.isPublic(m.getModifiers()) && !Modifier.isStatic(m.getModifiers()), signature(m) + " is public");
                open.add(signature(m));
                openNames.add(m.getName());
            }
        }
        must(open.equals(new TreeSet<>(Arrays.asList(FACE))), "the public methods are the document's: " + open);
        for (Class<?> c : allClasses()) {
            for (Method m : c.getDeclaredMethods()) {
                must(!Modifier.isPrivate(m.getModifiers()) || !openNames.contains(m.getName()),
                    c.getName() + "." + m.getName() + " has a name of its own");
                must(m.getParameterCount() <= 7, m.getName() + " takes at most seven parameters");
            }
        }
    }

    private static List<Class<?>> allClasses() {
        List<Class<?>> classes = new ArrayList<>(Arrays.asList(BilletBars.class.getDeclaredClasses()));
        classes.add(BilletBars.class);
        return classes;
    }

    private static void testFieldsAndClasses() {
        Set<String> constants = new TreeSet<>();
        for (Field f : BilletBars.class.getDeclaredFields()) {
            if (!Modifier.isPrivate(f.getModifiers())) {
                constants.add(Modifier.toString(f.getModifiers()) + " " + f.getType() + " " + f.getName());
            }
        }
        must(constants.equals(new TreeSet<>(Arrays.asList("public static final int NONE", "public static final int BAD",
            "public static final int NOT", "public static final int FULL"))), "the constants are the document's: " + constants);
        must(Modifier.isFinal(BilletBars.class.getModifiers()), "the class is final");
        must(BilletBars.class.getDeclaredConstructors().length == 1
            && BilletBars.class.getConstructors().length == 1, "there is one constructor, and it is public");
        must(allClasses().size() <= 12, "there are at most twelve classes");
        for (Class<?> c : allClasses()) {
            must(c == BilletBars.class || Modifier.isStatic(c.getModifiers()) && !Modifier.isPublic(c.getModifiers())
                && !Modifier.isProtected(c.getModifiers()), c.getName() + " is static, and private or package-visible");
            int fields = 0;
            for (Field f : c.getDeclaredFields()) {
                must(!Modifier.isStatic(f.getModifiers()) || Modifier.isFinal(f.getModifiers()), f.getName() + " is final");
                fields += Modifier.isStatic(f.getModifiers()) ? 0 : 1;
            }
            must(fields <= 20, c.getName() + " has at most twenty fields");
        }
    }

    private static void testSource() throws IOException {
        String source = Files.readString(Path.of("src/main/java/BilletBars.java"));
        mustLack(code(source), "\\b(throw|throws|try|catch|synchronized|assert|package|hashCode)\\b", "rule 6");
        mustLack(code(source), "->|::", "rule 2");
        mustLack(code(source), "\\b\\w+Exact\\b|\\b(Math|StrictMath)\\.(random|sqrt|pow)\\b", "rule 4");
        mustLack(code(source), "\\bSystem\\.(?!arraycopy\\b)\\w+", "rule 4");
        mustLack(code(source), "\\bArrays\\.(?!(copyOf|copyOfRange|fill)\\b)\\w+", "rule 4");
        mustLack(code(source), "\\bimport (?!java\\.util\\.(ArrayList|List|Arrays|Iterator);)[^;]*", "rule 4");
        must(source.chars().allMatch(c -> c < 256), "characters are 0 to 255");
    }

    /** Without comments, texts and the arrows of a switch, in which a barred word would be none. */
    private static String code(String source) {
        return source.replaceAll("(?s)/\\*.*?\\*/", " ").replaceAll("//[^\n]*", " ")
            .replaceAll("\"(\\\\.|[^\"\\\\])*\"", "text").replaceAll("\\b(case [^;{}>]*|default\\s*)->", "case");
    }

    private static void mustLack(String code, String barred, String rule) {
        Matcher found = Pattern.compile(barred).matcher(code);
        while (found.find()) {
            must(false, "the source keeps to " + rule + ": it has " + found.group());
        }
    }

    public static void main(String[] args) throws IOException {
        testMethods();
        testFieldsAndClasses();
        testSource();
        System.out.println(wrong == 0 ? "the face and the source are as told" : wrong + " things are not as told");
        if (wrong != 0) {
            System.exit(1);
        }
    }
}
