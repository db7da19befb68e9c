import java.lang.reflect.InvocationTargetException;
import java.lang.reflect.Method;
import java.lang.reflect.Modifier;
import java.util.ArrayList;
import java.util.Comparator;
import java.util.List;

/** Runs each test of the project; its arguments are how many tests passed and failed ahead of it. */
final class AllTests {
    private static final Class<?>[] TESTS = {TrayPromises.class, FourPromises.class, JoinedPromises.class, NormPromises.class,
        TurnPromises.class, TrayEdges.class, FourEdges.class, JoinedEdges.class, DivisionEdges.class, NormEdges.class,
        TurnEdges.class, StatusEdges.class, ByOtherCalls.class, LanguageRules.class, RoomRuns.class, ReadmeRuns.class,
        ModelRuns.class};

    private AllTests() {
    }

    public static void main(String[] args) {
        int passed = args.length == 2 ? Integer.parseInt(args[0]) : 0;
        int failed = args.length == 2 ? Integer.parseInt(args[1]) : 0;
        for (Class<?> each : TESTS) {
            for (Method test : testsOf(each)) {
                boolean well = run(test);
                System.out.println((well ? "passed: " : "FAILED: ") + each.getName() + " " + test.getName());
                if (well) passed++;
                else failed++;
            }
        }
        System.out.println(passed + " passed, " + failed + " failed");
        if (failed != 0) System.exit(1);
    }

    /** A test is a static method that takes a Due alone. */
    private static List<Method> testsOf(Class<?> each) {
        List<Method> tests = new ArrayList<>();
        for (Method method : each.getDeclaredMethods()) {
            boolean fits = Modifier.isStatic(method.getModifiers()) && !Modifier.isPrivate(method.getModifiers());
            if (fits && method.getParameterCount() == 1 && method.getParameterTypes()[0] == Due.class) tests.add(method);
        }
        tests.sort(Comparator.comparing(Method::getName));
        return tests;
    }

    private static boolean run(Method test) {
        Due due = new Due(test.getName());
        try {
            test.invoke(null, due);
        } catch (InvocationTargetException | IllegalAccessException e) {
            e.printStackTrace(System.out);
            return false;
        }
        return due.isWell();
    }
}
