import java.lang.reflect.Constructor;
import java.lang.reflect.Field;
import java.lang.reflect.Method;
import java.lang.reflect.Modifier;
import java.util.Arrays;
import java.util.Set;
import java.util.TreeSet;
import java.util.regex.Matcher;
import java.util.regex.Pattern;
import java.util.stream.Collectors;

/** The class shows the face that the document declares, and nothing else. */
public final class FaceTest {
    private static final Pattern DECLARED = Pattern.compile(" *public (\\w+) (\\w+)\\((.*)\\)(?: throws (.*))?;");
    private static final int METHODS = 58;

    public static void main(String[] args) {
        Check.equal("public final", AccentHouse.class.getModifiers(), Modifier.PUBLIC | Modifier.FINAL);
        Check.equal("NONE", AccentHouse.NONE, -1);
        checkMethods();
        checkOtherMembers();
        Check.finish();
    }

    private static void checkMethods() {
        Set<String> shown = new TreeSet<>();
        Set<String> publicNames = new TreeSet<>();
        for (Method method : AccentHouse.class.getDeclaredMethods()) {
            if (Modifier.isPublic(method.getModifiers())) {
                shown.add(describe(method));
                publicNames.add(method.getName());
            }
        }
        Set<String> promised = promised();
        Check.equal("how many are promised", promised.size(), METHODS);
        Check.equal("the public methods", shown, promised);
        for (Method method : AccentHouse.class.getDeclaredMethods()) {
            boolean isPrivate = Modifier.isPrivate(method.getModifiers());
            Check.equal("a private one named " + method.getName(),
                    isPrivate && publicNames.contains(method.getName()), false);
            Check.equal("hidden or promised " + method.getName(),
                    isPrivate || Modifier.isPublic(method.getModifiers()), true);
        }
    }

    private static Set<String> promised() {
        Set<String> promised = new TreeSet<>();
        for (String line : Document.face()) {
            Matcher method = DECLARED.matcher(line);
            if (method.matches()) {
                String exceptions = method.group(4) == null ? "" : method.group(4).replace(",", "");
                promised.add(method.group(1) + " " + method.group(2)
                        + "(" + method.group(3).replaceAll("(\\w+) \\w+", "$1").replace(", ", ",") + ") " + exceptions);
            }
        }
        return promised;
    }

    private static String describe(Method method) {
        String parameters = Arrays.stream(method.getParameterTypes()).map(Class::getSimpleName)
                .collect(Collectors.joining(","));
        String exceptions = Arrays.stream(method.getExceptionTypes()).map(Class::getSimpleName)
                .collect(Collectors.joining(" "));
        return method.getReturnType().getSimpleName() + " " + method.getName() + "(" + parameters + ") " + exceptions;
    }

    private static void checkOtherMembers() {
        Constructor<?>[] constructors = AccentHouse.class.getDeclaredConstructors();
        Check.equal("constructors", constructors.length, 1);
        Check.equal("the constructor is public", Modifier.isPublic(constructors[0].getModifiers()), true);
        Check.equal("the constructor's parameters", constructors[0].getParameterCount(), 0);
        for (Field field : AccentHouse.class.getDeclaredFields()) {
            Check.equal("field " + field.getName() + " is private", Modifier.isPrivate(field.getModifiers()),
                    !field.getName().equals("NONE"));
        }
    }
}
