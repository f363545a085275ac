import java.lang.reflect.InvocationTargetException;
import java.lang.reflect.Method;
import java.util.Map;

/**
 * Runs scripts of calls. A line is "method numbers -> answer", "method numbers" (the answer is not looked at),
 * "new" (a new object), "times N method numbers" (the same call N times), or a comment behind "#". The answer may
 * be "throws.X". A boolean argument is told as 0 or 1.
 */
final class Script {
    private static final Map<String, Method> METHODS = Runner.methods(Equalbook.class);

    private final String name;
    private Equalbook book = new Equalbook();
    private int asked;
    private int wrong;

    private Script(String name) {
        this.name = name;
    }

    /** Runs scripts, each on a new object; ends the run with 1, if an answer was not the one that is due. */
    static void run(String name, String... scripts) {
        Script script = new Script(name);
        for (String text : scripts) {
            script.book = new Equalbook();
            int number = 0;
            for (String line : text.split("\n")) {
                number++;
                script.play(line.contains("#") ? line.substring(0, line.indexOf('#')) : line, number);
            }
        }
        System.out.println(name + ": " + script.asked + " answers asked, " + script.wrong + " wrong");
        if (script.wrong > 0 || script.asked == 0) {
            System.exit(1);
        }
    }

    private void play(String line, int number) {
        String[] halves = (line + " ").split("->", 2);
        String[] words = halves[0].trim().split(" +");
        if (words[0].isEmpty()) {
            return;
        }
        if (words[0].equals("new")) {
            book = new Equalbook();
            return;
        }
        int from = words[0].equals("times") ? 2 : 0;
        int times = from == 0 ? 1 : Integer.parseInt(words[1]);
        String got = "";
        for (int n = 0; n < times; n++) {
            got = answer(words, from);
        }
        if (halves.length > 1) {
            asked++;
            String want = halves[1].trim();
            if (!want.equals(got)) {
                wrong++;
                System.out.println(name + " line " + number + ": " + halves[0].trim() + " answered " + got
                        + ", due is " + want);
            }
        }
    }

    private String answer(String[] words, int from) {
        Method method = METHODS.get(words[from]);
        Class<?>[] types = method.getParameterTypes();
        if (types.length != words.length - from - 1) {
            throw new IllegalStateException("a call with other arguments: " + String.join(" ", words));
        }
        Object[] args = new Object[types.length];
        for (int k = 0; k < args.length; k++) {
            int value = Integer.parseInt(words[from + 1 + k]);
            if (types[k] == boolean.class) {
                args[k] = value != 0;
            } else {
                args[k] = value;
            }
        }
        try {
            return String.valueOf(method.invoke(book, args));
        } catch (InvocationTargetException e) {
            return "throws." + e.getCause().getClass().getSimpleName();
        } catch (IllegalAccessException e) {
            throw new IllegalStateException(e);
        }
    }
}
