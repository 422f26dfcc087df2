import java.lang.reflect.Constructor;
import java.lang.reflect.Field;
import java.lang.reflect.Method;
import java.lang.reflect.Modifier;
import java.util.Arrays;
import java.util.TreeSet;

/** The public face is the document's, and nothing else can be seen from outside. */
public final class FaceTest {
    private static final String[] METHODS = {
        "int type(int)", "int wipe()", "int undo()", "int fault()", "int runner(int,int)", "int runs(int,int)",
        "int set(int,int)", "int mark(int,int)", "int slip(int,int)", "int read(int)", "int takes(int,int,int)",
        "int when(int,int)", "int meet(int)", "int kind(int)", "int time()", "int carries(int)", "int chance(int)",
        "long all(int)", "int safe(int,int)", "int best(int)", "int order(int,int)", "int blame(int,int)",
        "int lot(int)", "int races(int,int,int)", "int sheet(int,int,int)", "int lose(int)",
        "int lay(int,int,int,int)", "int get(int,int,int)", "int copy(int,int,int,int,int)", "int write(int)",
        "int count(int)", "long digest()",
    };

    public static void main(String[] args) throws Exception {
        Check check = new Check();
        Class<StickRelay> face = StickRelay.class;
        check.due("modifiers", face.getModifiers(), Modifier.PUBLIC | Modifier.FINAL);
        check.holds("the methods", seenMethods(face).equals(new TreeSet<>(Arrays.asList(METHODS))));
        check.holds("the fields", seenFields(face).equals(new TreeSet<>(Arrays.asList("NONE", "BAD", "NOT", "FULL"))));
        for (String name : new String[] {"NONE", "BAD", "NOT", "FULL"}) {
            Field field = face.getDeclaredField(name);
            check.due(name, field.getModifiers(), Modifier.PUBLIC | Modifier.STATIC | Modifier.FINAL);
            check.holds(name + " is an int", field.getType() == int.class);
        }
        Constructor<?>[] constructors = face.getDeclaredConstructors();
        check.due("constructors", constructors.length, 1);
        check.due("its modifiers", constructors[0].getModifiers(), Modifier.PUBLIC);
        check.due("its parameters", constructors[0].getParameterCount(), 0);
        check.due("NONE", StickRelay.NONE, -1);
        check.due("BAD", StickRelay.BAD, -2);
        check.due("NOT", StickRelay.NOT, -3);
        check.due("FULL", StickRelay.FULL, -4);
        check.end();
    }

    private static TreeSet<String> seenMethods(Class<?> face) {
        TreeSet<String> seen = new TreeSet<>();
        for (Method method : face.getDeclaredMethods()) {
            if (method.isSynthetic() || Modifier.isPrivate(method.getModifiers())) continue;
            String types = Arrays.toString(Arrays.stream(method.getParameterTypes()).map(Class::getName).toArray());
            String list = types.substring(1, types.length() - 1).replace(" ", "");
            String marks = method.getModifiers() == Modifier.PUBLIC ? "" : Modifier.toString(method.getModifiers()) + " ";
            seen.add(marks + method.getReturnType().getName() + " " + method.getName() + "(" + list + ")");
        }
        return seen;
    }

    private static TreeSet<String> seenFields(Class<?> face) {
        TreeSet<String> seen = new TreeSet<>();
        for (Field field : face.getDeclaredFields()) {
            if (!field.isSynthetic() && !Modifier.isPrivate(field.getModifiers())) seen.add(field.getName());
        }
        return seen;
    }
}
