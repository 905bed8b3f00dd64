import java.lang.reflect.InvocationTargetException;
import java.lang.reflect.Method;
import java.util.Arrays;
import java.util.Comparator;

/** Runs all methods of a test that bear words of the document, so that none can be forgotten. */
final class Sentences {
    private Sentences() {
    }

    static void run(Class<?> test, Answers answers) {
        Method[] methods = test.getDeclaredMethods();
        Arrays.sort(methods, Comparator.comparing(Method::getName));
        for (Method method : methods) {
            if (method.isAnnotationPresent(Says.class)) {
                runOne(method, answers);
            }
        }
        answers.end();
    }

    private static void runOne(Method method, Answers answers) {
        answers.ask(method.getName() + " (\"" + method.getAnnotation(Says.class).value() + "\")");
        int before = answers.asked();
        try {
            method.invoke(null);
        } catch (InvocationTargetException thrown) {
            answers.wrong("a call threw " + thrown.getCause());
        } catch (IllegalAccessException closed) {
            answers.wrong("the test cannot be called: " + closed);
        }
        if (answers.asked() == before) {
            answers.wrong("the test asks nothing");
        }
    }
}
