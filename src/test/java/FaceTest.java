import java.io.IOException;
import java.lang.reflect.Constructor;
import java.lang.reflect.Field;
import java.lang.reflect.Method;
import java.lang.reflect.Modifier;
import java.nio.file.Files;
import java.nio.file.Path;
import java.util.ArrayList;
import java.util.List;
import java.util.Set;
import java.util.TreeSet;
import java.util.regex.Matcher;
import java.util.regex.Pattern;

/** The public face, and those rules of ../shared/LANGUAGE.md that the class or its source can tell. */
public final class FaceTest {
    private static final Path SOURCE = Path.of("src/main/java/FractionPool.java");
    private static final String[] FACE = {
        "int set(int, long, long) Index Arithmetic Unsupported", "int copy(int, int) Index Unsupported", "int swap(int, int) Index",
        "int add(int, int, int) Index Unsupported", "int subtract(int, int, int) Index Unsupported",
        "int multiply(int, int, int) Index Unsupported", "int divide(int, int, int) Index Arithmetic Unsupported",
        "int power(int, int, int) Index Illegal Arithmetic Unsupported", "int dot(int, int, int, int) Index Illegal Unsupported",
        "int floor(int, int) Index Unsupported", "int round(int, int, int) Index Illegal Unsupported",
        "int align(int, int, int) Index Illegal Unsupported", "int compare(int, int) Index", "int sign(int) Index",
        "int length(int, boolean) Index", "int limb(int, boolean, int) Index", "int used()", "boolean type(long)",
        "int read(int) Index Illegal Unsupported", "int fault()", "int print(int) Index", "int character(int)"};
    private static final String[] RULED_OUT = {"\\bfinally\\b", "\\bsynchronized\\b", "\\bassert\\b", "(?<!(case |default)[^;{}\n]{0,90})->", "::",
        "Exact\\(", "\\bprotected\\b", "\\bSystem\\.(?!arraycopy)", "\\bstatic \\{", "\\bMath\\.random\\b", "\\bThread\\b", "\\bgetMessage\\b",
        "\\bcatch \\((final )?(Throwable|Exception|Error)\\b", "\\b(NullPointer|ArrayIndexOutOfBounds|ClassCast|NegativeArraySize|ArrayStore)Exception\\b"};
    private static final String IMPORT = "import java\\.util\\.(Arrays|ArrayList|List|Iterator|NoSuchElementException);";

    private final Checks checks = new Checks("FaceTest");

    public static void main(String[] args) throws IOException {
        new FaceTest().run();
    }

    private void run() throws IOException {
        theFace();
        nothingElseIsSeen();
        noNameTwice();
        theSource(Files.readString(SOURCE));
        checks.finish();
    }

    private void theFace() {
        Set<String> due = new TreeSet<>(List.of(FACE));
        Set<String> got = new TreeSet<>();
        for (Method method : FractionPool.class.getDeclaredMethods()) {
            if (Modifier.isPublic(method.getModifiers())) {
                got.add(signature(method));
            }
        }
        checks.same("public methods", got.toString(), due.toString());
        checks.same("the class", Modifier.toString(FractionPool.class.getModifiers()), "public final");
        Constructor<?>[] constructors = FractionPool.class.getDeclaredConstructors();
        checks.same("constructors", List.of(constructors).toString(), "[public FractionPool(int)]");
        checks.due("NONE", () -> FractionPool.NONE, -1);
    }

    private static String signature(Method method) {
        List<String> parameters = new ArrayList<>();
        for (Class<?> type : method.getParameterTypes()) {
            parameters.add(type.getName());
        }
        StringBuilder text = new StringBuilder(method.getReturnType() + " " + method.getName());
        text.append('(').append(String.join(", ", parameters)).append(')');
        for (Class<?> thrown : method.getExceptionTypes()) {
            text.append(' ').append(thrown.getSimpleName().split("(?<=[a-z])(?=[A-Z])")[0]);
        }
        return text.toString();
    }

    private void nothingElseIsSeen() {
        for (Field field : FractionPool.class.getDeclaredFields()) {
            boolean fits = field.getName().equals("NONE") || Modifier.isPrivate(field.getModifiers());
            checks.due("field " + field.getName(), () -> fits ? 1 : 0, 1);
        }
        for (Method method : FractionPool.class.getDeclaredMethods()) {
            boolean fits = Modifier.isPublic(method.getModifiers()) || Modifier.isPrivate(method.getModifiers());
            checks.due("method " + method.getName(), () -> fits ? 1 : 0, 1);
        }
        Class<?>[] inside = FractionPool.class.getDeclaredClasses();
        checks.due("as few as twelve classes", () -> inside.length < 12 ? 1 : 0, 1);
        for (Class<?> type : inside) {
            boolean fits = Modifier.isStatic(type.getModifiers()) && !Modifier.isPublic(type.getModifiers());
            checks.due("class " + type.getSimpleName(), () -> fits ? 1 : 0, 1);
            staticFieldsAreFinal(type);
        }
        staticFieldsAreFinal(FractionPool.class);
    }

    private void staticFieldsAreFinal(Class<?> type) {
        int own = 0;
        for (Field field : type.getDeclaredFields()) {
            boolean fits = !Modifier.isStatic(field.getModifiers()) || Modifier.isFinal(field.getModifiers());
            checks.due("static field " + field.getName(), () -> fits ? 1 : 0, 1);
            own += Modifier.isStatic(field.getModifiers()) ? 0 : 1;
        }
        int count = own;
        checks.due("as few as twenty fields in " + type.getSimpleName(), () -> count <= 20 ? 1 : 0, 1);
    }

    private void noNameTwice() {
        Set<String> face = new TreeSet<>();
        List<Method> others = new ArrayList<>();
        for (Method method : FractionPool.class.getDeclaredMethods()) {
            if (Modifier.isPublic(method.getModifiers())) {
                face.add(method.getName());
            } else {
                others.add(method);
            }
        }
        for (Class<?> type : FractionPool.class.getDeclaredClasses()) {
            others.addAll(List.of(type.getDeclaredMethods()));
        }
        for (Method method : others) {
            checks.due("a name of the face: " + method.getName(), () -> face.contains(method.getName()) ? 1 : 0, 0);
            checks.due("parameters of " + method.getName(), () -> method.getParameterCount() <= 7 ? 1 : 0, 1);
        }
    }

    private void theSource(String source) {
        String code = source.replaceAll("(?s)/\\*.*?\\*/", "").replaceAll("//[^\n]*", "").replaceAll("\"[^\"\n]*\"", "\"\"");
        for (String ruledOut : RULED_OUT) {
            checks.due("ruled out: " + ruledOut, () -> Pattern.compile(ruledOut).matcher(code).find() ? 1 : 0, 0);
        }
        Matcher imports = Pattern.compile("(?m)^import .*$").matcher(code);
        while (imports.find()) {
            String line = imports.group();
            checks.due("an import: " + line, () -> line.matches(IMPORT) ? 1 : 0, 1);
        }
        int start = 0;
        String[] lines = source.split("\n");
        for (int i = 0; i < lines.length; i++) {
            if (lines[i].matches(" {4}( {4})?\\S.*\\) (throws .*)?\\{")) {
                start = i;
            }
            if (lines[i].matches(" {4}( {4})?\\}")) {
                int length = i - start + 1;
                String what = "the method of line " + (start + 1) + " is short";
                if (!lines[start].contains(" class ")) {
                    checks.due(what, () -> length <= 60 ? 1 : 0, 1);
                }
                start = i;
            }
        }
    }
}
