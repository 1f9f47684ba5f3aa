import java.io.IOException;
import java.lang.reflect.Constructor;
import java.lang.reflect.Field;
import java.lang.reflect.Method;
import java.lang.reflect.Modifier;
import java.nio.file.Files;
import java.nio.file.Path;
import java.util.ArrayList;
import java.util.Arrays;
import java.util.List;

/** The public face of the class, and the rules of LANGUAGE.md that a look at the class or its source can tell. */
public final class FaceTest {
    private static final String INDEX = " throws IndexOutOfBoundsException";
    private static final String ARGUMENT = " throws IllegalArgumentException";
    private static final String STATE = " throws IllegalStateException";
    private static final String INDEX_ARGUMENT = INDEX + " IllegalArgumentException";
    private static final String ARGUMENT_STATE = ARGUMENT + " IllegalStateException";

    private static final String[] METHODS = {
        "int storm 0" + STATE, "int cross 2" + INDEX, "int trade 6" + INDEX_ARGUMENT, "int worth 2" + INDEX_ARGUMENT,
        "int set 1" + ARGUMENT, "int promise 4" + INDEX_ARGUMENT, "int fulfil 1" + INDEX,
        "int append 1" + ARGUMENT_STATE, "int clearBuffer 0", "int firstError 0", "int run 0" + ARGUMENT,
        "int keep 1" + ARGUMENT, "int goBack 1" + ARGUMENT_STATE, "int undo 0" + STATE, "int caps 2" + INDEX,
        "int islanderOf 2" + INDEX_ARGUMENT, "int promiseOf 2" + INDEX_ARGUMENT, "int owed 2" + INDEX,
        "int count 1" + ARGUMENT, "int where 3" + INDEX_ARGUMENT, "int homeIn 1" + ARGUMENT,
        "int fewest 3" + INDEX_ARGUMENT, "int richest 0", "int canKeepIn 1" + INDEX, "double richShare 0",
        "long digest 0"
    };
    private static final String[] RULED_OUT = {
        "package ", "::", "finally", "synchronized", "assert ", "static {", "System.out", "System.current", "System.nano",
        "Random", "Thread", "Double.", "Float.", "Exact(", "hashCode", "equals(Object"
    };
    private static final List<String> IMPORTS = List.of("import java.util.ArrayList;", "import java.util.List;",
        "import java.util.Arrays;", "import java.util.Iterator;", "import java.util.NoSuchElementException;");

    private static int wrong = 0;

    public static void main(String[] args) throws IOException {
        face();
        names();
        source();
        System.out.println(wrong == 0 ? "the face is as due" : wrong + " things are not as due");
        if (wrong != 0) {
            System.exit(1);
        }
    }

    private static void need(boolean fine, String what) {
        if (!fine) {
            wrong++;
            System.out.println("not as due: " + what);
        }
    }

    private static void face() {
        Class<?> face = StormPurses.class;
        need(Modifier.isPublic(face.getModifiers()) && Modifier.isFinal(face.getModifiers()), "public final class");
        List<String> got = new ArrayList<>();
        for (Method method : face.getDeclaredMethods()) {
            if (Modifier.isPublic(method.getModifiers())) {
                got.add(told(method));
                need(Arrays.stream(method.getParameterTypes()).allMatch(int.class::equals), method + " takes int");
                need(!Modifier.isStatic(method.getModifiers()), method + " is of the object");
            } else {
                need(Modifier.isPrivate(method.getModifiers()) || method.isSynthetic(), method + " is private");
            }
        }
        List<String> want = new ArrayList<>(Arrays.asList(METHODS));
        got.sort(null);
        want.sort(null);
        need(got.equals(want), "the methods are " + got);
        Constructor<?>[] constructors = face.getDeclaredConstructors();
        need(constructors.length == 1 && Modifier.isPublic(constructors[0].getModifiers())
            && constructors[0].getParameterCount() == 0, "one public constructor");
        for (Field field : face.getDeclaredFields()) {
            boolean isFace = field.getName().equals("NONE") && Modifier.isPublic(field.getModifiers())
                && Modifier.isStatic(field.getModifiers()) && field.getType() == int.class;
            need(isFace || Modifier.isPrivate(field.getModifiers()), field + " is private");
        }
    }

    private static String told(Method method) {
        StringBuilder text = new StringBuilder(method.getReturnType() + " " + method.getName() + " ");
        text.append(method.getParameterCount());
        String separator = " throws ";
        for (Class<?> exception : method.getExceptionTypes()) {
            text.append(separator).append(exception.getSimpleName());
            separator = " ";
        }
        return text.toString();
    }

    /** No private method bears the name of one of the face, static fields are final, and parameters are at most 7. */
    private static void names() {
        List<String> names = new ArrayList<>();
        for (String method : METHODS) {
            names.add(method.split(" ")[1]);
        }
        List<Class<?>> all = new ArrayList<>(Arrays.asList(StormPurses.class.getDeclaredClasses()));
        need(all.size() <= 13, "some twelve classes at most");
        all.add(StormPurses.class);
        for (Class<?> one : all) {
            for (Method method : one.getDeclaredMethods()) {
                boolean isPrivate = Modifier.isPrivate(method.getModifiers());
                need(!isPrivate || !names.contains(method.getName()), method + " has a name of its own");
                need(method.getParameterCount() <= 7, method + " takes at most 7");
            }
            int fields = 0;
            for (Field field : one.getDeclaredFields()) {
                boolean isStatic = Modifier.isStatic(field.getModifiers());
                fields += isStatic ? 0 : 1;
                need(!isStatic || Modifier.isFinal(field.getModifiers()), field + " is final");
            }
            need(fields <= 24, one + " has some twenty fields at most");
        }
    }

    private static void source() throws IOException {
        String path = System.getProperty("stormpurses.source");
        need(path != null, "the property stormpurses.source tells where the source is");
        if (path == null) {
            return;
        }
        for (String line : Files.readAllLines(Path.of(path))) {
            String code = withoutComment(line);
            for (String word : RULED_OUT) {
                need(!code.contains(word), "\"" + word + "\" in " + line);
            }
            need(!code.startsWith("import ") || IMPORTS.contains(code), "only what is listed: " + line);
            boolean isCase = code.startsWith("case ") || code.startsWith("default ");
            need(isCase || !code.contains("->"), "no lambda: " + line);
            need(code.chars().allMatch(sign -> sign < 128), "plain characters: " + line);
        }
    }

    private static String withoutComment(String line) {
        String code = line.strip();
        return code.startsWith("*") ? "" : code.replaceFirst("//.*", "").replaceFirst("/\\*.*", "").strip();
    }
}
