import java.lang.reflect.Constructor;
import java.lang.reflect.Field;
import java.lang.reflect.Method;
import java.lang.reflect.Modifier;
import java.nio.charset.StandardCharsets;
import java.nio.file.Files;
import java.nio.file.Path;
import java.util.List;
import java.util.Set;
import java.util.TreeSet;
import java.util.regex.Matcher;
import java.util.regex.Pattern;

/** What can be seen of the rules of LANGUAGE.md without running the class. */
public final class LanguageTest {
    private static final Path SOURCE = Path.of("src/main/java/Equalbook.java");
    private static final Path DOCUMENT = Path.of("../shared/DOC.md");

    // The face, as the document has it.
    private static final Set<String> FACE = Set.of(
            "term(int,int,int)int", "put(int,int,int)int", "text(int)String", "ofTerm(int,int)int",
            "tell(int,int,int)int", "unlike(int,int,int)int", "takeBack(int,int)int", "law(int,boolean,boolean)int",
            "level(int)int", "back(int)int", "equation(int,int)String", "ofBook(int,int)int",
            "like(int,int,int)boolean", "classOf(int,int)int", "round(int,int,int)int", "path(int,int,int)String",
            "why(int,int,int)String", "without(int,int,int,int)boolean", "clashWhy(int)String", "common()int",
            "steps(int,int,int,int)int", "meet(int,int,int,int)int", "reached(int,int,int)int",
            "normal(int,int)String", "say(int,int,int,int,int,int)int", "unsay(int)int", "find(int,int,int)int",
            "shorten(int)int", "join(int,int)int", "line(int,int)String", "ofLine(int,int,int)int",
            "hangs(int,int)String", "firstWrong(int)int", "fails(int,int)int", "keep(int,int)int", "drop(int)int",
            "ofLemma(int,int)int", "tableAt(int,int)int", "valueIn(int,int,int)int", "equalIn(int,int,int)boolean",
            "house(int)int", "knock()int", "isSound()boolean", "digest()long");

    // Words and signs that stand nowhere in the class.
    private static final List<String> NOWHERE = List.of(
            "\\bimport\\b", "\\bpackage\\b", "->", "::", "\\bcatch\\b", "\\btry\\b", "\\bfinally\\b", "\\bassert\\b",
            "\\bsynchronized\\b", "\\bprotected\\b", "\\bsuper\\b", "\\bvar\\b", "\\bDouble\\b", "\\bObject\\b",
            "Exact\\b", "\\bSystem\\b(?!\\.arraycopy)", "\\bequals\\(", "\\bhashCode\\b", "\\bgetMessage\\b");

    private static int asked;
    private static int wrong;

    private LanguageTest() {
    }

    public static void main(String[] args) throws Exception {
        checkFace();
        for (Class<?> inner : Equalbook.class.getDeclaredClasses()) {
            checkInner(inner);
        }
        checkSource();
        checkDocument();
        System.out.println("LanguageTest: " + asked + " things asked, " + wrong + " wrong");
        if (wrong > 0) {
            System.exit(1);
        }
    }

    private static void ask(boolean isSo, String what) {
        asked++;
        if (!isSo) {
            wrong++;
            System.out.println("LanguageTest: " + what);
        }
    }

    private static void checkFace() {
        ask(Modifier.isFinal(Equalbook.class.getModifiers()), "the class is final");
        Set<String> face = new TreeSet<>();
        for (Method method : Equalbook.class.getDeclaredMethods()) {
            if (Modifier.isPublic(method.getModifiers())) {
                face.add(signature(method));
            } else {
                ask(Modifier.isPrivate(method.getModifiers()), method.getName() + " is public or private");
                ask(!isFaceName(method.getName()), method.getName() + " bears no name of the face");
            }
        }
        ask(face.equals(new TreeSet<>(FACE)), "the face is as told, but it is " + face);
        for (Constructor<?> constructor : Equalbook.class.getDeclaredConstructors()) {
            ask(Modifier.isPublic(constructor.getModifiers()) && constructor.getParameterCount() == 0,
                    "the constructor is public and has no parameters");
        }
        for (Field field : Equalbook.class.getDeclaredFields()) {
            ask(Modifier.isPrivate(field.getModifiers()), field.getName() + " is private");
        }
        checkFields(Equalbook.class);
    }

    private static boolean isFaceName(String name) {
        return FACE.stream().anyMatch(told -> told.startsWith(name + "("));
    }

    private static String signature(Method method) {
        StringBuilder text = new StringBuilder(method.getName()).append('(');
        for (Class<?> type : method.getParameterTypes()) {
            text.append(text.charAt(text.length() - 1) == '(' ? "" : ",").append(type.getSimpleName());
        }
        return text.append(')').append(method.getReturnType().getSimpleName()).toString();
    }

    private static void checkInner(Class<?> inner) {
        String name = inner.getSimpleName();
        ask(Modifier.isStatic(inner.getModifiers()) && !Modifier.isPublic(inner.getModifiers()),
                name + " is static and not public");
        for (Method method : inner.getDeclaredMethods()) {
            ask(!isFaceName(method.getName()), name + "." + method.getName() + " bears no name of the face");
            ask(method.getParameterCount() <= 7, name + "." + method.getName() + " has at most 7 parameters");
        }
        checkFields(inner);
    }

    private static void checkFields(Class<?> type) {
        int fields = 0;
        for (Field field : type.getDeclaredFields()) {
            boolean isStatic = Modifier.isStatic(field.getModifiers());
            fields += isStatic ? 0 : 1;
            ask(!isStatic || Modifier.isFinal(field.getModifiers()), field + " is final");
        }
        ask(fields <= 20, type.getSimpleName() + " has at most 20 fields");
    }

    private static void checkSource() throws Exception {
        byte[] bytes = Files.readAllBytes(SOURCE);
        for (byte sign : bytes) {
            if (sign <= 0) {
                ask(false, "all signs are 1 to 127");
                break;
            }
        }
        String source = new String(bytes, StandardCharsets.US_ASCII);
        String code = source.replaceAll("(?s)/\\*.*?\\*/", " ").replaceAll("//[^\n]*", " ");
        for (String word : NOWHERE) {
            ask(!Pattern.compile(word).matcher(code).find(), word + " stands nowhere");
        }
        ask(!Pattern.compile("\"\\s*\\+|\\+\\s*\"").matcher(code).find(), "texts are not joined by +");
        Matcher library = Pattern.compile("\\b(Math|Integer|Long|Arrays)\\.(\\w+)").matcher(code);
        while (library.find()) {
            ask(Set.of("min", "max", "bitCount").contains(library.group(2)), library.group() + " is of the library");
        }
        Matcher thrown = Pattern.compile("throw ([^;]*);").matcher(code);
        while (thrown.find()) {
            ask(thrown.group(1).matches("new Illegal(State|Argument)Exception\\(\"[^\"]*\"\\)"
                    + "|new IndexOutOfBoundsException\\(\"[^\"]*\"\\)"), thrown.group() + " is told so");
        }
        ask(Equalbook.class.getDeclaredClasses().length <= 12, "there are at most 12 classes");
        checkLengths(source);
    }

    /** The signatures stand in the class as in the document, the exceptions in their order, too. */
    private static void checkDocument() throws Exception {
        String document = Files.readString(DOCUMENT);
        String face = document.split("```java", 2)[1].split("```", 2)[0];
        String source = Files.readString(SOURCE).replaceAll("\\s+", " ");
        int signatures = 0;
        for (String line : face.split("\n")) {
            String told = line.trim();
            if (told.endsWith(";")) {
                signatures++;
                ask(source.contains(told.substring(0, told.length() - 1) + " {"), "the class has " + told);
            }
        }
        ask(signatures == FACE.size() + 1, "the document has " + (FACE.size() + 1) + " signatures");
    }

    private static void checkLengths(String source) {
        String[] lines = source.split("\n");
        for (int start = 0; start < lines.length; start++) {
            Matcher head = Pattern.compile("^(    |        )(?! )(?!.*\\bclass\\b).*\\{$").matcher(lines[start]);
            if (head.matches()) {
                int end = start;
                while (!lines[end].equals(head.group(1) + "}") && !lines[end].equals(head.group(1) + "};")) {
                    end++;
                }
                ask(end - start < 60, "line " + (start + 1) + " starts a method of at most 60 lines");
            }
        }
    }
}
