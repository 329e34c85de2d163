import java.io.IOException;
import java.lang.reflect.Constructor;
import java.lang.reflect.Field;
import java.lang.reflect.Method;
import java.lang.reflect.Modifier;
import java.nio.file.Files;
import java.nio.file.Path;
import java.util.List;
import java.util.Set;
import java.util.TreeSet;
import java.util.regex.Pattern;

/** The public face is the document's and nothing more, and the program keeps to what LANGUAGE.md says of its words. */
public final class FaceTest {
    private static final List<String> FACE = List.of("boolean type(int,int)", "int declare()", "int run(int)",
        "int length()", "int at(int)", "int left()", "int fields(int)", "int method(int,int)");
    private static final List<String> RULED_OUT = List.of("->", "::", "\\bthrow", "\\btry\\b", "\\bcatch\\b", "\\bfinally\\b",
        "\\bsynchronized\\b", "\\bassert\\b", "\\bprotected\\b", "\\bstatic \\{", "\\bdouble\\b", "\\bfloat\\b", "\\bObject\\b",
        "\\bRandom\\b", "\\bSystem\\.(?!arraycopy)", "hashCode", "\\bequals\\b", "toString", "^package\\b", "\\bvar\\b", "Map\\b",
        "\\bThread\\b", "\\bjava\\.(?!util\\.Array)");
    private static final Set<String> IMPORTS = Set.of("import java.util.ArrayList;", "import java.util.Arrays;");

    public static void main(String[] args) throws IOException {
        theClass();
        theMembers();
        theClassesInside();
        theSource();
        Session.end();
    }

    private static void theClass() {
        int modifiers = BoundedTypes.class.getModifiers();
        Session.due("public", Modifier.isPublic(modifiers), true);
        Session.due("final", Modifier.isFinal(modifiers), true);
        Session.due("no package", BoundedTypes.class.getPackageName().isEmpty(), true);
        Constructor<?>[] all = BoundedTypes.class.getDeclaredConstructors();
        Session.due("constructors", all.length, 1);
        Session.due("a public one without parameters",
            Modifier.isPublic(all[0].getModifiers()) && all[0].getParameterCount() == 0, true);
    }

    private static void theMembers() {
        Set<String> found = new TreeSet<>();
        Set<String> names = new TreeSet<>();
        for (Method method : BoundedTypes.class.getDeclaredMethods()) {
            if (Modifier.isPublic(method.getModifiers())) {
                String parameters = List.of(method.getParameterTypes()).toString().replaceAll("[\\[\\] ]", "");
                found.add(method.getReturnType() + " " + method.getName() + "(" + parameters + ")");
                names.add(method.getName());
            }
        }
        Session.due("the face " + found, found.equals(new TreeSet<>(FACE)), true);
        for (Method method : BoundedTypes.class.getDeclaredMethods()) {
            if (!Modifier.isPublic(method.getModifiers())) {
                Session.due(method + " is private", Modifier.isPrivate(method.getModifiers()), true);
                Session.due(method + " has a name of its own", names.contains(method.getName()), false);
            }
        }
        for (Field field : BoundedTypes.class.getDeclaredFields()) {
            Session.due(field + " is private", Modifier.isPrivate(field.getModifiers()), true);
        }
    }

    private static void theClassesInside() {
        Class<?>[] inside = BoundedTypes.class.getDeclaredClasses();
        Session.due("at most twelve classes", inside.length < 12, true);
        for (Class<?> c : inside) {
            Session.due(c + " is static", Modifier.isStatic(c.getModifiers()), true);
            Session.due(c + " is private", Modifier.isPrivate(c.getModifiers()), true);
            int fields = 0;
            for (Field field : c.getDeclaredFields()) {
                boolean isStatic = Modifier.isStatic(field.getModifiers());
                Session.due(field + " is no static state", isStatic && !Modifier.isFinal(field.getModifiers()), false);
                fields += isStatic ? 0 : 1;
            }
            Session.due(c + " has some twenty fields at most", fields <= 20, true);
            for (Method method : c.getDeclaredMethods()) {
                Session.due(method + " has seven parameters at most", method.getParameterCount() <= 7, true);
            }
        }
    }

    private static void theSource() throws IOException {
        String source = Files.readString(Path.of("src/main/java/BoundedTypes.java"));
        String code = source.replaceAll("(?s)/\\*.*?\\*/", "").replaceAll("//.*", "");
        for (String word : RULED_OUT) {
            Session.due("'" + word + "' stands in the program", Pattern.compile(word).matcher(code).find(), false);
        }
        code.lines().filter(line -> line.startsWith("import"))
            .forEach(line -> Session.due(line, IMPORTS.contains(line), true));
    }
}
