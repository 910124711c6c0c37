import java.lang.reflect.InvocationTargetException;
import java.lang.reflect.Method;
import java.util.ArrayList;
import java.util.Comparator;
import java.util.List;

/** Runs the cases of a test: its methods that take a Run, each with a new object. */
final class Cases {
    private Cases() {
    }

    /** A case of promise 7 has a name that begins with p07; those of the Terms begin with term. */
    static void run(Class<?> test, int firstPromise, int lastPromise) {
        Check check = new Check(test.getName());
        List<Method> cases = casesOf(test);
        for (Method one : cases) {
            int asked = check.asked();
            play(check, one);
            check.isTrue(one.getName() + " asks something", check.asked() > asked);
            check.isTrue(one.getName() + " is named by its promise", one.getName().matches("(p[0-2][0-9]|term)[A-Z]\\w*"));
        }
        for (int promise = firstPromise; promise <= lastPromise; promise++) {
            String start = String.format("p%02d", promise);
            check.isTrue("there are cases of promise " + promise,
                    cases.stream().anyMatch(one -> one.getName().startsWith(start)));
        }
        System.out.println(test.getName() + ": " + cases.size() + " cases");
        check.end();
    }

    private static List<Method> casesOf(Class<?> test) {
        List<Method> cases = new ArrayList<>();
        for (Method method : test.getDeclaredMethods()) {
            boolean takesRun = method.getParameterCount() == 1 && method.getParameterTypes()[0] == Run.class;
            if (takesRun && method.getReturnType() == void.class && !method.isSynthetic()) {
                cases.add(method);
            }
        }
        cases.sort(Comparator.comparing(Method::getName));
        return cases;
    }

    private static void play(Check check, Method one) {
        try {
            one.invoke(null, new Run(check, one.getName()));
        } catch (InvocationTargetException thrown) {
            check.isTrue(one.getName() + " ends without " + thrown.getCause(), false);
        } catch (IllegalAccessException thrown) {
            check.isTrue(one.getName() + " can be run", false);
        }
    }
}
