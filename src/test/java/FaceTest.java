import java.io.IOException;
import java.lang.reflect.Field;
import java.lang.reflect.Method;
import java.lang.reflect.Modifier;
import java.nio.file.Files;
import java.nio.file.Path;
import java.util.ArrayList;
import java.util.Arrays;
import java.util.HashSet;
import java.util.List;
import java.util.Set;
import java.util.TreeSet;
import java.util.regex.Matcher;
import java.util.regex.Pattern;

// The public face is the document's and no more, and the source keeps to rules that can be read off it.
public final class FaceTest {
    private static final String[] FACE = {
        "int profile(int,int,int,int)", "int die(int,int)", "int warm(int)", "int cool(int)",
        "int nitride(int)", "int about(int,int)", "int ready(int)", "int pass(int)", "int law(int,int)",
        "int press(int,int)", "int bar(int,int)", "int order(int,int,int)", "int wanted(int,int)",
        "int pattern(int,int,int)", "int account(int)", "int stock(int)", "int best(int,boolean)",
        "int job(int,int,int)", "int change(int)", "int late()", "int planned(int)", "int room(int)",
        "int age()", "int batches()", "int sample(int,boolean)", "int suspect(int)", "int held()",
        "int drift(int,int)", "int sheet(int,int,int)", "int lose(int)", "int put(int,int,int,int)",
        "int get(int,int,int)", "int copy(int,int,int,int,int)", "int count(int)", "long digest()"};

    private static int wrong = 0;

    private static void must(boolean holds, String what) {
        if (!holds) {
            wrong++;
            System.out.println("not so: " + what);
        }
    }

    private static String signature(Method m) {
        List<String> types = new ArrayList<>();
        for (Class<?> type : m.getParameterTypes()) {
            types.add(type.getName());
        }
        return m.getReturnType().getName() + " " + m.getName() + "(" + String.join(",", types) + ")";
    }

    private static void testMethods() {
        Set<String> open = new TreeSet<>();
        Set<String> openNames = new HashSet<>();
        for (Method m : BilletBars.class.getDeclaredMethods()) {
            if (!Modifier.isPrivate(m.getModifiers())) {
                must(Modifier.isPublic(m.getModifiers()) && !Modifier.isStatic(m.getModifiers()), signature(m) + " is public");
                open.add(signature(m));
                openNames.add(m.getName());
            }
        }
        must(open.equals(new TreeSet<>(Arrays.asList(FACE))), "the public methods are the document's: " + open);
        for (Class<?> inside : BilletBars.class.getDeclaredClasses()) {
            for (Method m : inside.getDeclaredMethods()) {
                must(!openNames.contains(m.getName()), inside.getName() + "." + m.getName() + " has a name of its own");
                must(m.getParameterCount() <= 7, m.getName() + " takes at most seven parameters");
            }
        }
        for (Method m : BilletBars.class.getDeclaredMethods()) {
            must(!Modifier.isPrivate(m.getModifiers()) || !openNames.contains(m.getName()), m.getName() + " has a name of its own");
        }
    }

    private static void testFieldsAndClasses() {
        Set<String> constants = new TreeSet<>();
        for (Field f : BilletBars.class.getDeclaredFields()) {
            if (!Modifier.isPrivate(f.getModifiers())) {
                constants.add(Modifier.toString(f.getModifiers()) + " " + f.getType() + " " + f.getName());
            }
        }
        must(constants.equals(new TreeSet<>(Arrays.asList("public static final int NONE", "public static final int BAD",
            "public static final int NOT", "public static final int FULL"))), "the constants are the document's: " + constants);
        must(Modifier.isFinal(BilletBars.class.getModifiers()), "the class is final");
        must(BilletBars.class.getDeclaredConstructors().length == 1
            && BilletBars.class.getConstructors().length == 1, "there is one constructor, and it is public");
        List<Class<?>> classes = new ArrayList<>(Arrays.asList(BilletBars.class.getDeclaredClasses()));
        must(classes.size() < 12, "there are at most twelve classes");
        classes.add(BilletBars.class);
        for (Class<?> c : classes) {
            must(c == BilletBars.class || Modifier.isStatic(c.getModifiers()), c.getName() + " is static");
            int fields = 0;
            for (Field f : c.getDeclaredFields()) {
                must(!Modifier.isStatic(f.getModifiers()) || Modifier.isFinal(f.getModifiers()), f.getName() + " is final");
                fields += Modifier.isStatic(f.getModifiers()) ? 0 : 1;
            }
            must(fields <= 20, c.getName() + " has at most twenty fields");
        }
    }

    private static void testSource() throws IOException {
        String source = Files.readString(Path.of("src/main/java/BilletBars.java"));
        String code = source.replaceAll("(?s)/\\*.*?\\*/", " ").replaceAll("//[^\n]*", " ");
        Matcher barred = Pattern.compile("\\b(throw|throws|try|catch|synchronized|assert|import|package|float|double|"
            + "equals|hashCode|toString)\\b|->|::|Exact\\b|\"").matcher(code);
        while (barred.find()) {
            must(false, "the source is without " + barred.group());
        }
        Set<String> library = new TreeSet<>();
        Matcher calls = Pattern.compile("\\b(Math|Integer|Long|System|Arrays)\\.(\\w+)").matcher(code);
        while (calls.find()) {
            library.add(calls.group());
        }
        must(Set.of("Math.max", "Math.min", "Math.floorDiv", "Integer.MAX_VALUE", "Integer.MIN_VALUE",
            "System.arraycopy").containsAll(library), "the library is what LANGUAGE.md lists: " + library);
        must(source.chars().allMatch(c -> c < 128), "the source is plain text");
    }

    public static void main(String[] args) throws IOException {
        testMethods();
        testFieldsAndClasses();
        testSource();
        System.out.println(wrong == 0 ? "the face and the source are as told" : wrong + " things are not as told");
        if (wrong != 0) {
            System.exit(1);
        }
    }
}
