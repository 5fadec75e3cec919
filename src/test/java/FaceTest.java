import java.io.IOException;
import java.lang.reflect.Constructor;
import java.lang.reflect.Field;
import java.lang.reflect.Method;
import java.lang.reflect.Modifier;
import java.nio.file.Files;
import java.nio.file.Path;
import java.util.ArrayList;
import java.util.Arrays;
import java.util.List;
import java.util.TreeSet;
import java.util.regex.Matcher;
import java.util.regex.Pattern;

/**
 * The face is the document's and nothing else; and the source keeps to what of LANGUAGE.md can be seen
 * without reading it: a net with wide meshes, not a proof.
 */
public final class FaceTest {
    private static final String[] FACE = {
        "int status()", "long top()", "long bottom()", "boolean tray(int,int,int)", "boolean write(int,int,long)", "long read(int,int)",
        "boolean pour(int,int,int,int,int)", "int feed(int,int,int,int,int)", "int wood(int)", "int years(int)", "int fault(int)",
        "int many(int)", "int matter(int,int)", "int hold(int,int)", "int sitter(int,int)", "int news(int,int)", "int copyHeights(int)",
        "int day(int)", "int bring(int)", "int crisis(int,int)", "int turn(int,int)", "int sit(int,int,int)", "int hear(int,int)",
        "int bind(int,int)", "int loose(int)", "int hurry(int,int)", "boolean rule(int)", "int clearIn(int,int)", "int heightIn(int,int)",
        "int downIn(int)", "int least(int)", "int leastSet(int)", "int ring()", "int loosen()", "int loosenSet()", "int waiting()",
        "int orderAt(int)", "int round(int)", "int out(int,int,int)", "int ask(int,int,int)", "int laws(int,int)", "int lawOf(int,int,int)",
        "boolean off(int,int)", "int stay(int,int)", "int game(int,int,int)", "int moveOf(int,int,int)", "boolean lasts(int)",
        "boolean share(int)", "int live(int)", "int lived(int)", "boolean mean(int,int)", "int mark()", "int back()"};
    private static final Check CHECK = new Check("FaceTest");

    public static void main(String[] args) throws IOException {
        face();
        inside();
        source(Files.readString(Path.of("src/main/java/MossSeats.java")));
        CHECK.finish();
    }

    private static void no(String what, boolean found) {
        CHECK.due(what, found, false);
    }

    private static String signature(Method method) {
        List<String> types = new ArrayList<>();
        for (Class<?> type : method.getParameterTypes()) {
            types.add(type.getSimpleName());
        }
        return method.getReturnType().getSimpleName() + " " + method.getName() + "(" + String.join(",", types) + ")";
    }

    private static void face() {
        TreeSet<String> due = new TreeSet<>(Arrays.asList(FACE));
        TreeSet<String> publicNames = new TreeSet<>();
        for (Method method : MossSeats.class.getDeclaredMethods()) {
            if (Modifier.isPrivate(method.getModifiers())) {
                continue;
            }
            no("a method that is not of the face: " + signature(method), !due.remove(signature(method)));
            CHECK.due("public: " + method, Modifier.isPublic(method.getModifiers()) && !Modifier.isStatic(method.getModifiers()), true);
            publicNames.add(method.getName());
        }
        CHECK.due("methods that are missing: " + due, due.size(), 0);
        for (Method method : MossSeats.class.getDeclaredMethods()) {
            no("a private method with a public one's name: " + method,
                Modifier.isPrivate(method.getModifiers()) && publicNames.contains(method.getName()));
        }
        for (Constructor<?> constructor : MossSeats.class.getDeclaredConstructors()) {
            CHECK.due("the constructor", Modifier.isPublic(constructor.getModifiers()) && constructor.getParameterCount() == 0, true);
        }
        for (Field field : MossSeats.class.getDeclaredFields()) {
            boolean isNone = field.getName().equals("NONE") && field.getType() == int.class
                && Modifier.isPublic(field.getModifiers()) && Modifier.isStatic(field.getModifiers()) && Modifier.isFinal(field.getModifiers());
            CHECK.due("private, or NONE: " + field, isNone || Modifier.isPrivate(field.getModifiers()), true);
        }
        CHECK.due("the class is final", Modifier.isFinal(MossSeats.class.getModifiers()), true);
        CHECK.due("it has no package", MossSeats.class.getPackageName().length(), 0);
    }

    private static void inside() {
        Class<?>[] inside = MossSeats.class.getDeclaredClasses();
        CHECK.due("some twelve classes at most", inside.length < 13, true);
        for (Class<?> one : inside) {
            CHECK.due("static: " + one, Modifier.isStatic(one.getModifiers()), true);
            no("public or protected: " + one, Modifier.isPublic(one.getModifiers()) || Modifier.isProtected(one.getModifiers()));
            no("classes within: " + one, one.getDeclaredClasses().length > 0);
            manyFields(one);
        }
        manyFields(MossSeats.class);
    }

    private static void manyFields(Class<?> one) {
        int fields = 0;
        for (Field field : one.getDeclaredFields()) {
            boolean isStatic = Modifier.isStatic(field.getModifiers());
            fields += isStatic ? 0 : 1;
            Class<?> type = field.getType();
            no("static state: " + field, isStatic && !(Modifier.isFinal(field.getModifiers()) && (type.isPrimitive() || type == String.class)));
        }
        CHECK.due("some twenty fields at most: " + one + " has " + fields, fields <= 20, true);
        for (Method method : one.getDeclaredMethods()) {
            CHECK.due("at most seven parameters: " + method, method.getParameterCount() <= 7, true);
            no("synchronized: " + method, Modifier.isSynchronized(method.getModifiers()));
            no("made by the compiler, as for a lambda: " + method, method.isSynthetic());
        }
    }

    private static void source(String text) {
        String code = text.replaceAll("(?s)/\\*.*?\\*/", "").replaceAll("//[^\\n]*", "").replaceAll("\"[^\"\\n]*\"", "\"\"");
        Pattern words = Pattern.compile("\\b(throw|throws|try|catch|finally|synchronized|assert|volatile|transient|native|strictfp|var|yield|"
            + "hashCode|toString|Object|System\\.(?!arraycopy)\\w+|Math\\.\\w+Exact|Thread|Random|Exception|Error)\\b|->|::|\"\\s*\\+|\\+\\s*\"|@");
        Matcher word = words.matcher(code);
        while (word.find()) {
            no("a word that LANGUAGE.md leaves out: " + word.group(), true);
        }
        Matcher imports = Pattern.compile("import ([^;]+);").matcher(code);
        while (imports.find()) {
            CHECK.due("import " + imports.group(1), List.of("java.util.Arrays", "java.util.ArrayList", "java.util.List", "java.util.Iterator")
                .contains(imports.group(1)), true);
        }
        no("a while without an end in sight", Pattern.compile("while \\(true\\)|for \\(;;\\)").matcher(code).find());
        no("signs beyond 127", text.chars().anyMatch(c -> c > 127));
        methodLengths(text);
    }

    private static void methodLengths(String text) {
        String[] lines = text.split("\n");
        int begin = -1;
        String end = null;
        for (int i = 0; i < lines.length; i++) {
            String line = lines[i];
            String indent = line.substring(0, line.length() - line.stripLeading().length());
            boolean begins = line.matches(" +(public |private |static |final )*[\\w\\[\\]<>]+( \\w+)?\\(.*\\) \\{") && !line.matches(" +(if|for|while|switch|} else).*");
            if (end == null && begins) {
                begin = i;
                end = indent + "}";
            } else if (end != null && line.equals(end)) {
                CHECK.due("some sixty lines at most: " + lines[begin].strip(), i - begin + 1 <= 60, true);
                end = null;
            }
        }
    }
}
