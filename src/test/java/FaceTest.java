import java.io.IOException;
import java.lang.reflect.Constructor;
import java.lang.reflect.Field;
import java.lang.reflect.Method;
import java.lang.reflect.Modifier;
import java.nio.file.Path;
import java.util.Set;
import java.util.TreeSet;
import java.util.regex.Matcher;
import java.util.regex.Pattern;
import java.util.stream.Collectors;
import java.util.stream.Stream;

/** The public face of the document, and nothing else that can be seen from outside (LANGUAGE.md, rules 1 and 5). */
public final class FaceTest {
    private static final Path DOCUMENT = Path.of("../shared/DOC.md");
    private static final Pattern METHOD = Pattern.compile("public (\\w+) (\\w+)\\(([^)]*)\\)(?: throws ([^;]*))?;");

    public static void main(String[] args) throws IOException {
        Due due = new Due("The public face");
        Class<?> face = StockDesk.class;
        due.same("modifiers", Modifier.toString(face.getModifiers()), "public final");
        due.same("constructors", constructors(face), "[public StockDesk()]");
        Set<String> promised = promised();
        due.same("methods in the document", promised.size(), 15);
        due.same("methods", methods(face).toString(), promised.toString());
        for (Method method : face.getDeclaredMethods()) {
            int modifiers = method.getModifiers();
            boolean fits = Modifier.isPublic(modifiers) ? !Modifier.isStatic(modifiers) : Modifier.isPrivate(modifiers);
            due.same("visibility of " + method.getName(), fits ? 1 : 0, 1);
        }
        for (Field field : face.getDeclaredFields()) {
            int modifiers = field.getModifiers();
            due.same("private final " + field.getName(),
                Modifier.isPrivate(modifiers) && Modifier.isFinal(modifiers) ? 1 : 0, 1);
        }
        for (Class<?> inside : face.getDeclaredClasses()) {
            due.same("static " + inside.getName(), Modifier.isStatic(inside.getModifiers()) ? 1 : 0, 1);
        }
        noOtherMethodIsNamedAsAPublicOne(due, face);
        due.end();
    }

    /** The methods that the document's face lists, each as textOf writes it. */
    private static Set<String> promised() throws IOException {
        Set<String> promised = new TreeSet<>();
        Matcher method = METHOD.matcher(String.join("", Blocks.of(DOCUMENT, "java")));
        while (method.find()) {
            String types = method.group(3).replaceAll("(\\w+) \\w+,?", "$1");
            String exceptions = method.group(4) == null ? "" : " " + method.group(4).replace(",", "");
            promised.add(method.group(1) + " " + method.group(2) + "(" + types + ")" + exceptions);
        }
        return promised;
    }

    private static String constructors(Class<?> face) {
        return Stream.of(face.getDeclaredConstructors()).map(Constructor::toString).collect(Collectors.toList()).toString();
    }

    private static Set<String> methods(Class<?> face) {
        return Stream.of(face.getDeclaredMethods()).filter(m -> Modifier.isPublic(m.getModifiers()))
            .map(FaceTest::textOf).collect(Collectors.toCollection(TreeSet::new));
    }

    private static String textOf(Method method) {
        String parameters = Stream.of(method.getParameterTypes()).map(Class::getSimpleName).collect(Collectors.joining(" "));
        String exceptions = Stream.of(method.getExceptionTypes()).map(c -> " " + c.getSimpleName())
            .collect(Collectors.joining());
        return method.getReturnType().getSimpleName() + " " + method.getName() + "(" + parameters + ")" + exceptions;
    }

    private static void noOtherMethodIsNamedAsAPublicOne(Due due, Class<?> face) {
        Set<String> names = Stream.of(face.getDeclaredMethods()).filter(m -> Modifier.isPublic(m.getModifiers()))
            .map(Method::getName).collect(Collectors.toSet());
        Stream<Method> inside = Stream.of(face.getDeclaredClasses()).flatMap(c -> Stream.of(c.getDeclaredMethods()));
        Stream<Method> own = Stream.of(face.getDeclaredMethods()).filter(m -> Modifier.isPrivate(m.getModifiers()));
        Stream.concat(own, inside)
            .forEach(m -> due.same("a name of the face: " + m.getName(), names.contains(m.getName()) ? 1 : 0, 0));
    }
}
