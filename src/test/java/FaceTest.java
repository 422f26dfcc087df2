import java.io.IOException;
import java.lang.reflect.Constructor;
import java.lang.reflect.Field;
import java.lang.reflect.Method;
import java.lang.reflect.Modifier;
import java.nio.file.Files;
import java.nio.file.Path;
import java.util.Arrays;
import java.util.TreeSet;
import java.util.regex.Matcher;
import java.util.regex.Pattern;

/** The public face is the document's, and nothing else can be seen from outside. */
public final class FaceTest {
    private static final Path DOCUMENT = Path.of("../shared/DOC.md");
    private static final Pattern METHOD = Pattern.compile("    public (\\w+) (\\w+)\\(([\\w, ]*)\\);");

    public static void main(String[] args) throws Exception {
        Check check = new Check();
        Class<StickRelay> face = StickRelay.class;
        check.due("modifiers", face.getModifiers(), Modifier.PUBLIC | Modifier.FINAL);
        check.due("methods that the document lists", listedMethods().size(), 32);
        check.holds("the methods", seenMethods(face).equals(listedMethods()));
        check.holds("the fields", seenFields(face).equals(new TreeSet<>(Arrays.asList("NONE", "BAD", "NOT", "FULL"))));
        for (String name : new String[] {"NONE", "BAD", "NOT", "FULL"}) {
            Field field = face.getDeclaredField(name);
            check.due(name, field.getModifiers(), Modifier.PUBLIC | Modifier.STATIC | Modifier.FINAL);
            check.holds(name + " is an int", field.getType() == int.class);
        }
        Constructor<?>[] constructors = face.getDeclaredConstructors();
        check.due("constructors", constructors.length, 1);
        check.due("its modifiers", constructors[0].getModifiers(), Modifier.PUBLIC);
        check.due("its parameters", constructors[0].getParameterCount(), 0);
        check.due("NONE", StickRelay.NONE, -1);
        check.due("BAD", StickRelay.BAD, -2);
        check.due("NOT", StickRelay.NOT, -3);
        check.due("FULL", StickRelay.FULL, -4);
        check.end();
    }

    /** As the document lists them: what is answered, the name, the types of the numbers. */
    private static TreeSet<String> listedMethods() throws IOException {
        TreeSet<String> listed = new TreeSet<>();
        for (String line : Files.readAllLines(DOCUMENT)) {
            Matcher method = METHOD.matcher(line);
            if (!method.matches()) continue;
            String types = method.group(3).replaceAll(" \\w+(, |$)", ",").replaceAll(",$", "");
            listed.add(method.group(1) + " " + method.group(2) + "(" + types + ")");
        }
        return listed;
    }

    private static TreeSet<String> seenMethods(Class<?> face) {
        TreeSet<String> seen = new TreeSet<>();
        for (Method method : face.getDeclaredMethods()) {
            if (method.isSynthetic() || Modifier.isPrivate(method.getModifiers())) continue;
            String types = Arrays.toString(Arrays.stream(method.getParameterTypes()).map(Class::getName).toArray());
            String list = types.substring(1, types.length() - 1).replace(" ", "");
            String marks = method.getModifiers() == Modifier.PUBLIC ? "" : Modifier.toString(method.getModifiers()) + " ";
            seen.add(marks + method.getReturnType().getName() + " " + method.getName() + "(" + list + ")");
        }
        return seen;
    }

    private static TreeSet<String> seenFields(Class<?> face) {
        TreeSet<String> seen = new TreeSet<>();
        for (Field field : face.getDeclaredFields()) {
            if (!field.isSynthetic() && !Modifier.isPrivate(field.getModifiers())) seen.add(field.getName());
        }
        return seen;
    }
}
