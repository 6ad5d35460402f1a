import java.lang.reflect.InvocationTargetException;
import java.lang.reflect.Method;
import java.util.ArrayList;
import java.util.Comparator;
import java.util.List;
import java.util.Set;
import java.util.TreeSet;

/** Runs the tests of all promises: the methods of the sections that are named promiseNN_call_sentence. */
public final class PromisesTest {
    private static final List<Class<?>> SECTIONS = List.of(
        DiesTests.class, PressingTests.class, CuttingTests.class, JobsTests.class, AgeingTests.class, SheetsTests.class);
    private static final int PROMISES = 36;

    private static List<Method> tests() {
        List<Method> tests = new ArrayList<>();
        for (Class<?> section : SECTIONS) {
            for (Method m : section.getDeclaredMethods()) {
                if (m.getName().startsWith("promise")) {
                    tests.add(m);
                }
            }
        }
        tests.sort(Comparator.comparing(Method::getName));
        return tests;
    }

    /** What is wrong; an exception that the machine throws in a call is wrong, too. */
    private static List<String> run(Method test) {
        List<String> thrown = new ArrayList<>();
        try {
            test.invoke(null);
        } catch (InvocationTargetException e) {
            thrown.add("it threw " + e.getCause());
        } catch (IllegalAccessException e) {
            thrown.add("it can't be run: " + e);
        }
        List<String> wrong = Answers.takeWrong();
        wrong.addAll(thrown);
        return wrong;
    }

    private static boolean passes(Method test) {
        List<String> wrong = run(test);
        for (String w : wrong) {
            System.out.println(test.getName() + ": " + w);
        }
        return wrong.isEmpty();
    }

    private static boolean everyPromiseHasATest(List<Method> tests) {
        Set<Integer> tested = new TreeSet<>();
        for (Method test : tests) {
            tested.add(Integer.parseInt(test.getName().substring(7, 9)));
        }
        System.out.println(tested.size() + " promises are tested");
        return tested.size() == PROMISES;
    }

    public static void main(String[] args) {
        Deadline.set(120);
        List<Method> tests = tests();
        int passed = 0;
        for (Method test : tests) {
            passed += passes(test) ? 1 : 0;
        }
        boolean complete = everyPromiseHasATest(tests);
        System.out.println(passed + " passed, " + (tests.size() - passed) + " failed");
        if (!complete || passed != tests.size()) {
            System.exit(1);
        }
    }
}
