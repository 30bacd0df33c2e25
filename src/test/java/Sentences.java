import java.lang.reflect.InvocationTargetException;
import java.lang.reflect.Method;
import java.lang.reflect.Modifier;
import java.util.ArrayList;
import java.util.Comparator;
import java.util.List;

/** Runs the tests of a class: all its methods but main and the private ones. */
final class Sentences {
    private Sentences() {
    }

    static void test(Class<?> tests) {
        for (Method test : testsOf(tests)) {
            About about = test.getAnnotation(About.class);
            if (about == null) {
                Check.equal(test.getName() + " says what it is about", false, true);
                continue;
            }
            Check.begin(test.getName() + ", promise " + about.promise() + ", \"" + about.sentence() + "\"");
            call(test);
        }
        Check.end();
    }

    static List<Method> testsOf(Class<?> tests) {
        List<Method> found = new ArrayList<>();
        for (Method method : tests.getDeclaredMethods()) {
            boolean isTest = !method.isSynthetic() && !Modifier.isPrivate(method.getModifiers());
            if (isTest && !method.getName().equals("main")) {
                found.add(method);
            }
        }
        found.sort(Comparator.comparing(Method::getName));
        return found;
    }

    private static void call(Method test) {
        try {
            test.invoke(null);
        } catch (InvocationTargetException e) {
            Check.equal("the test", e.getCause(), "an end without an exception");
        } catch (IllegalAccessException e) {
            Check.equal("the test", e, "a call");
        }
    }
}
