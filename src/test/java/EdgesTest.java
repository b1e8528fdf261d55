import java.lang.reflect.InvocationTargetException;
import java.lang.reflect.Method;
import java.util.Arrays;
import java.util.Comparator;

/**
 * The edges of every promise: for each sentence of the document that names one, a test of its own,
 * which is a static method promiseNN_.. of one of the classes here.
 */
public final class EdgesTest {
    private static final int PROMISES = 29;
    private static final Class<?>[] TESTS = {
        TextEdges.class, SketchEdges.class, SightEdges.class, ViewEdges.class, CloudEdges.class};

    public static void main(String[] args) throws IllegalAccessException {
        int[] testsOf = new int[PROMISES + 1];
        for (Class<?> tests : TESTS) {
            Method[] methods = tests.getDeclaredMethods();
            Arrays.sort(methods, Comparator.comparing(Method::getName));
            for (Method method : methods) {
                if (method.getName().matches("promise\\d\\d_.*")) {
                    testsOf[Integer.parseInt(method.getName().substring(7, 9))]++;
                    run(method);
                }
            }
        }
        Edges.test = "all promises";
        for (int promise = 1; promise <= PROMISES; promise++) {
            Edges.due("promise " + promise + " has a test", Math.min(testsOf[promise], 1), 1);
        }
        System.out.println(Arrays.stream(testsOf).sum() + " tests of edges");
        Edges.answers.end();
    }

    private static void run(Method method) throws IllegalAccessException {
        Edges.test = method.getName();
        try {
            method.invoke(null);
        } catch (InvocationTargetException thrown) {
            answersNothing(thrown.getCause());
        }
    }

    private static void answersNothing(Throwable cause) {
        Edges.answers.due(Edges.test, String.valueOf(cause), "an answer");
    }
}
