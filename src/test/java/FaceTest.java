import java.io.IOException;
import java.lang.reflect.Constructor;
import java.lang.reflect.Field;
import java.lang.reflect.Method;
import java.lang.reflect.Modifier;
import java.nio.file.Files;
import java.nio.file.Path;
import java.util.Arrays;
import java.util.List;
import java.util.Set;
import java.util.TreeSet;
import java.util.regex.Matcher;
import java.util.regex.Pattern;

/** The class has the document's face and no more, and keeps what can be seen of LANGUAGE.md. */
public final class FaceTest {
    private static final String[] FACE = {
        "boolean retreat()", "boolean tape(int,int,int,int,int)",
        "int bestAt(int) throws IllegalStateException,IllegalArgumentException",
        "int distanceToMate() throws IllegalStateException",
        "int historyOf(int,int) throws IndexOutOfBoundsException", "int legalMany()",
        "int legalMove(int) throws IndexOutOfBoundsException", "int manOn(int)",
        "int matingMove() throws IllegalStateException",
        "int proceed(int) throws IllegalStateException,IndexOutOfBoundsException", "int status(int)",
        "int submit(int) throws IllegalArgumentException",
        "int valueAt(int) throws IllegalStateException,IllegalArgumentException",
        "long linesTo(int) throws IllegalStateException,IllegalArgumentException", "long recordAt(int)",
        "long spelling(int) throws IndexOutOfBoundsException"};

    private FaceTest() {
    }

    public static void main(String[] args) throws IOException {
        face();
        members();
        source(Files.readString(Path.of("src/main/java/GameHall.java")));
        Hall.end("FaceTest");
    }

    private static String names(Class<?>[] types) {
        StringBuilder out = new StringBuilder();
        for (Class<?> type : types) {
            out.append(out.length() == 0 ? "" : ",").append(type.getSimpleName());
        }
        return out.toString();
    }

    private static void face() {
        Set<String> due = new TreeSet<>(Arrays.asList(FACE));
        Set<String> got = new TreeSet<>();
        for (Method method : GameHall.class.getDeclaredMethods()) {
            if (!Modifier.isPrivate(method.getModifiers())) {
                String thrown = names(method.getExceptionTypes());
                got.add(method.getReturnType().getSimpleName() + " " + method.getName() + "("
                        + names(method.getParameterTypes()) + ")" + (thrown.isEmpty() ? "" : " throws " + thrown));
            }
        }
        Hall.due("the face", due.toString(), got.toString());
    }

    private static void members() {
        int modifiers = GameHall.class.getModifiers();
        Hall.due("public and final", 1, Modifier.isPublic(modifiers) && Modifier.isFinal(modifiers) ? 1 : 0);
        for (Field field : GameHall.class.getDeclaredFields()) {
            boolean hidden = Modifier.isPrivate(field.getModifiers());
            Hall.due("field " + field.getName(), 1, hidden != field.getName().equals("NONE") ? 1 : 0);
        }
        Constructor<?>[] makers = GameHall.class.getDeclaredConstructors();
        Hall.due("constructors", 1, makers.length);
        Hall.due("constructor", "int", names(makers[0].getParameterTypes()));
        Set<String> publicNames = new TreeSet<>();
        for (String line : FACE) {
            publicNames.add(line.replaceAll("\\(.*", "").replaceAll(".* ", ""));
        }
        List<Class<?>> inner = Arrays.asList(GameHall.class.getDeclaredClasses());
        Hall.due("some twelve classes at the most", 1, inner.size() <= 13 ? 1 : 0);
        for (Class<?> type : inner) {
            boolean fits = Modifier.isStatic(type.getModifiers()) && !Modifier.isPublic(type.getModifiers());
            Hall.due("class " + type.getName(), 1, fits ? 1 : 0);
            for (Field field : type.getDeclaredFields()) {
                boolean fixed = !Modifier.isStatic(field.getModifiers()) || Modifier.isFinal(field.getModifiers());
                Hall.due("field " + field, 1, fixed ? 1 : 0);
            }
            for (Method method : type.getDeclaredMethods()) {
                Hall.due("method " + method, 0, publicNames.contains(method.getName()) ? 1 : 0);
                Hall.due("parameters of " + method, 1, method.getParameterCount() <= 7 ? 1 : 0);
            }
        }
    }

    private static void source(String text) {
        String bare = text.replaceAll("(?s)/\\*.*?\\*/", "").replaceAll("//[^\n]*", "");
        String[] ruledOut = {"(?m)^(?!\\s*(case|default)\\b).*->", "::", "\\bfinally\\b", "\\bsynchronized\\b", "\\bassert\\b",
            "\\bSystem\\.(?!arraycopy\\()", "\\bObject\\b", "\\bstatic \\{", "\\bhashCode\\b", "\\bgetMessage\\b", "Exact\\(",
            "\\bRandom\\b", "\\bThread\\b", "(?m)^package\\b", "\\bextends (Runtime)?Exception\\b", "\\bjava\\.(?!util\\.)",
            "throw (?!new (IllegalState|IllegalArgument|IndexOutOfBounds|Arithmetic|UnsupportedOperation|NoSuchElement|Runtime)"
                + "(Exception)?)"};
        for (String word : ruledOut) {
            Matcher found = Pattern.compile(word).matcher(bare);
            Hall.due("'" + word + "' in the source", "", found.find() ? found.group() : "");
        }
        Matcher imports = Pattern.compile("import ([^;]*);").matcher(bare);
        while (imports.find()) {
            boolean known = imports.group(1).matches("java\\.util\\.(Arrays|ArrayList|List|Iterator|NoSuchElementException)");
            Hall.due(imports.group(), 1, known ? 1 : 0);
        }
        methodLengths(bare.split("\n"));
    }

    /** A method ends where a brace stands in its own column; some sixty lines are meant. */
    private static void methodLengths(String[] lines) {
        Pattern head = Pattern.compile("( +)\\S.*\\) (throws [^{]*)?\\{");
        for (int at = 0; at < lines.length; at++) {
            Matcher first = head.matcher(lines[at]);
            if (first.matches()) {
                int last = at;
                while (last < lines.length && !lines[last].equals(first.group(1) + "}")) {
                    last++;
                }
                Hall.due("short: " + lines[at].trim(), 1, last == lines.length || last - at <= 70 ? 1 : 0);
            }
        }
    }
}
