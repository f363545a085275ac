import java.lang.reflect.InvocationTargetException;
import java.lang.reflect.Method;
import java.util.ArrayList;
import java.util.Arrays;
import java.util.HashMap;
import java.util.List;
import java.util.Map;

/** Makes each call on an Equalbook and on an Oracle, and compares what they answer. */
final class Runner {
    private static final Map<String, Method> OF_BOOK = methods(Equalbook.class);
    private static final Map<String, Method> OF_ORACLE = methods(Oracle.class);

    final Equalbook book = new Equalbook();
    final Oracle oracle = new Oracle();
    private final List<String> calls = new ArrayList<>();
    private final String name;
    private boolean isWrong;
    /** How often each call gave which kind of answer, over all runs. */
    static final Map<String, Integer> SEEN = new HashMap<>();

    Runner(String name) {
        this.name = name;
    }

    static Map<String, Method> methods(Class<?> type) {
        Map<String, Method> all = new HashMap<>();
        for (Method method : type.getDeclaredMethods()) {
            if (java.lang.reflect.Modifier.isPublic(method.getModifiers())) {
                all.put(method.getName(), method);
            }
        }
        return all;
    }

    private static Object answer(Object on, Method method, Object[] args) {
        try {
            return method.invoke(on, args);
        } catch (InvocationTargetException e) {
            return "throws." + e.getCause().getClass().getSimpleName();
        } catch (IllegalAccessException e) {
            throw new IllegalStateException(e);
        }
    }

    /** The answer that is due; a boolean argument is told as 0 or 1. */
    Object call(String method, int... numbers) {
        Class<?>[] types = OF_BOOK.get(method).getParameterTypes();
        Object[] args = new Object[numbers.length];
        for (int k = 0; k < args.length; k++) {
            if (types[k] == boolean.class) {
                args[k] = numbers[k] != 0;
            } else {
                args[k] = numbers[k];
            }
        }
        String told = method + Arrays.toString(args).replace('[', '(').replace(']', ')');
        calls.add(told);
        Object want = answer(oracle, OF_ORACLE.get(method), args);
        Object got = answer(book, OF_BOOK.get(method), args);
        count(method, want);
        if (!want.equals(got) && !isWrong) {
            isWrong = true;
            System.out.println(name + ": " + told + " answered " + got + ", due is " + want);
            System.out.println("  behind " + calls.subList(0, calls.size() - 1));
        }
        return want;
    }

    int number(String method, int... numbers) {
        Object answer = call(method, numbers);
        return answer instanceof Integer ? (Integer) answer : -1;
    }

    private static void count(String method, Object answer) {
        boolean isPlain = answer instanceof String && !((String) answer).startsWith("throws")
                || answer instanceof Long || answer instanceof Integer && (Integer) answer >= 0;
        SEEN.merge(method + " " + (isPlain ? "answers" : answer), 1, Integer::sum);
    }

    int callsMade() {
        return calls.size();
    }

    boolean isWrong() {
        return isWrong;
    }
}
