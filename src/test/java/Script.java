import java.lang.reflect.InvocationTargetException;
import java.lang.reflect.Method;
import java.util.Map;

/**
 * Runs scripts of calls. A line is "method numbers -> answer", "method numbers" (the answer is not looked at),
 * "new" (a new object), "times N method numbers" (the same call N times), a title behind "## ", which is told with
 * what is wrong behind it, or a comment behind "#". The answer may be "throws.X"; I, A and S alone stand for
 * IndexOutOfBounds-, IllegalArgument- and IllegalStateException. A boolean argument is told as 0 or 1. Each call is
 * made on an Oracle, too: so what the random runs compare with is looked at as well. Each script is run once more
 * with digest() ahead of and behind each call that is refused: it must be the same.
 */
final class Script {
    private static final Map<String, Method> METHODS = Runner.methods(Equalbook.class);
    private static final Map<String, Method> OF_ORACLE = Runner.methods(Oracle.class);
    private static final Map<String, String> SHORT = Map.of("I", "throws.IndexOutOfBoundsException",
            "A", "throws.IllegalArgumentException", "S", "throws.IllegalStateException");

    private final String name;
    private String title = "";
    private Equalbook book = new Equalbook();
    private Oracle oracle = new Oracle();
    private boolean isWithDigest;
    private int asked;
    private int wrong;

    private Script(String name) {
        this.name = name;
    }

    /** Runs scripts, each on a new object; ends the run with 1, if an answer was not the one that is due. */
    static void run(String name, String... scripts) {
        Script script = new Script(name);
        for (String text : scripts) {
            script.isWithDigest = false;
            script.playAll(text);
            script.isWithDigest = true;
            script.playAll(text);
        }
        System.out.println(name + ": " + script.asked + " answers asked, " + script.wrong + " wrong");
        if (script.wrong > 0 || script.asked == 0) {
            System.exit(1);
        }
    }

    /** The object on which a script was run. */
    static Equalbook made(String text) {
        Script script = new Script("made");
        script.playAll(text);
        return script.book;
    }

    private void playAll(String text) {
        start();
        title = "";
        int number = 0;
        for (String line : text.split("\n")) {
            number++;
            if (line.startsWith("## ")) {
                title = line.substring(2);
            }
            play(line.contains("#") ? line.substring(0, line.indexOf('#')) : line, number);
        }
    }

    private void play(String line, int number) {
        String[] halves = (line + " ").split("->", 2);
        String[] words = halves[0].trim().split(" +");
        if (words[0].isEmpty()) {
            return;
        }
        if (words[0].equals("new")) {
            start();
            return;
        }
        int from = words[0].equals("times") ? 2 : 0;
        int times = from == 0 ? 1 : Integer.parseInt(words[1]);
        String got = "";
        String byOracle = "";
        boolean isRefused = halves.length > 1 && times == 1 && isRefusal(halves[1].trim());
        boolean isTwice = isWithDigest && isRefused;
        long before = isTwice ? book.digest() : 0;
        for (int n = 0; n < times; n++) {
            got = answer(book, METHODS, words, from);
            byOracle = answer(oracle, OF_ORACLE, words, from);
        }
        if (halves.length > 1) {
            String want = SHORT.getOrDefault(halves[1].trim(), halves[1].trim());
            ask(name + title + ", line " + number + ": " + halves[0].trim(), got, want);
            ask(name + title + ", line " + number + ", the Oracle: " + halves[0].trim(), byOracle, want);
        }
        if (isTwice) {
            ask(name + title + ", line " + number + ": digest() behind " + halves[0].trim(),
                    String.valueOf(book.digest()), String.valueOf(before));
        }
    }

    private static boolean isRefusal(String want) {
        return want.equals("-9") || want.startsWith("throws.") || SHORT.containsKey(want);
    }

    private void start() {
        book = new Equalbook();
        oracle = new Oracle();
    }

    private void ask(String call, String got, String want) {
        asked++;
        if (!want.equals(got)) {
            wrong++;
            System.out.println(call + " answered " + got + ", due is " + want);
        }
    }

    private static String answer(Object on, Map<String, Method> methods, String[] words, int from) {
        Method method = methods.get(words[from]);
        Class<?>[] types = method.getParameterTypes();
        if (types.length != words.length - from - 1) {
            throw new IllegalStateException("a call with other arguments: " + String.join(" ", words));
        }
        Object[] args = new Object[types.length];
        for (int k = 0; k < args.length; k++) {
            int value = Integer.parseInt(words[from + 1 + k]);
            if (types[k] == boolean.class) {
                args[k] = value != 0;
            } else {
                args[k] = value;
            }
        }
        try {
            return String.valueOf(method.invoke(on, args));
        } catch (InvocationTargetException e) {
            return "throws." + e.getCause().getClass().getSimpleName();
        } catch (IllegalAccessException e) {
            throw new IllegalStateException(e);
        }
    }
}
