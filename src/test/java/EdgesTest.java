import java.lang.reflect.InvocationTargetException;
import java.lang.reflect.Method;
import java.nio.file.Files;
import java.nio.file.Path;
import java.util.ArrayList;
import java.util.Comparator;
import java.util.List;

/**
 * Runs each test of a boundary case (a method with Edge) by itself, so that what fails is told with its
 * promise and its sentence. With "list" it tells all of them instead.
 */
public final class EdgesTest {
    private static final Class<?>[] HOLDERS = {
        EdgesOfText.class, EdgesOfRules.class, EdgesOfRace.class, EdgesOfOdds.class, EdgesOfLots.class,
        EdgesOfSheets.class, EdgesOfTelling.class, EdgesOfRefusals.class,
    };
    private static final Path DOCUMENT = Path.of("../shared/DOC.md");
    private static final int PROMISES = 33;

    public static void main(String[] args) throws Exception {
        List<Method> edges = edges();
        if (args.length > 0 && args[0].equals("list")) {
            for (Method edge : edges) System.out.println(title(edge));
            return;
        }
        Check check = new Check();
        String document = Files.readString(DOCUMENT);
        boolean[] isHeld = new boolean[PROMISES + 1];
        for (Method edge : edges) {
            Edge told = edge.getAnnotation(Edge.class);
            isHeld[told.promise()] = true;
            check.holds("the document says: " + title(edge), document.contains(told.says()));
            check.holds(title(edge), isWell(edge));
        }
        for (int promise = 1; promise <= PROMISES; promise++) {
            check.holds("promise " + promise + " has a test of a boundary case", isHeld[promise]);
        }
        check.end();
    }

    private static List<Method> edges() {
        List<Method> edges = new ArrayList<>();
        for (Class<?> holder : HOLDERS) {
            for (Method method : holder.getDeclaredMethods()) {
                if (method.isAnnotationPresent(Edge.class)) edges.add(method);
            }
        }
        edges.sort(Comparator.comparing((Method edge) -> edge.getAnnotation(Edge.class).promise())
            .thenComparing(edge -> edge.getDeclaringClass().getName()).thenComparing(Method::getName));
        return edges;
    }

    private static String title(Method edge) {
        Edge told = edge.getAnnotation(Edge.class);
        return "promise " + told.promise() + ", \"" + told.says() + "\", " + edge.getName();
    }

    private static boolean isWell(Method edge) throws IllegalAccessException {
        Check check = new Check("promise " + edge.getAnnotation(Edge.class).promise() + ", " + edge.getName() + ": ");
        try {
            edge.invoke(null, check);
        } catch (InvocationTargetException thrown) {
            check.holds("nothing is thrown, but " + thrown.getCause(), false);
        }
        return check.isAllWell() && check.hasAsked();
    }
}
