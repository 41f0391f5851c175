import java.lang.reflect.InvocationTargetException;
import java.lang.reflect.Method;
import java.util.ArrayList;
import java.util.Comparator;
import java.util.List;

/** Runs the tests of one promise, each for itself, and tells each by its number, name and sentence. */
final class Promise {
    private Promise() {
    }

    static void test(Class<?> promise) {
        for (Method test : testsOf(promise)) {
            int compared = Check.compared();
            int wrong = Check.wrong();
            run(test);
            Check.holds("it compares something", Check.compared() > compared);
            System.out.println((Check.wrong() == wrong ? "ok      " : "FAILED  ") + nameOf(test));
        }
        Check.end(promise.getName());
    }

    static List<Method> testsOf(Class<?> promise) {
        List<Method> tests = new ArrayList<>();
        for (Method method : promise.getDeclaredMethods()) {
            if (method.isAnnotationPresent(Sentence.class)) {
                tests.add(method);
            }
        }
        tests.sort(Comparator.comparing(Method::getName));
        return tests;
    }

    private static void run(Method test) {
        try {
            test.invoke(null);
        } catch (InvocationTargetException thrown) {
            Check.holds("threw " + thrown.getCause(), false);
        } catch (IllegalAccessException | IllegalArgumentException noTest) {
            Check.holds("can't be run: " + noTest, false);
        }
    }

    private static String nameOf(Method test) {
        String number = test.getDeclaringClass().getName().replaceAll("\\D", "");
        String sentences = String.join(" .. ", test.getAnnotation(Sentence.class).value());
        return "promise " + Integer.parseInt(number) + ", " + test.getName() + ": " + sentences;
    }
}
