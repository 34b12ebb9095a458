import java.lang.reflect.Constructor;
import java.lang.reflect.Field;
import java.lang.reflect.Method;
import java.lang.reflect.Modifier;
import java.util.Arrays;
import java.util.Set;
import java.util.TreeSet;
import java.util.stream.Collectors;

/** The class shows the document's face and nothing else. */
public final class FaceTest {
    private static final String BOUNDS = "IndexOutOfBoundsException";
    private static final String ARGUMENT = "IllegalArgumentException";
    private static final String STATE = "IllegalStateException";

    private static final String[] FACE = {
        "int append(int,int,int,int,int) " + STATE,
        "int load(int) " + BOUNDS + " " + ARGUMENT,
        "int errorKind() ", "int errorOffset() ", "int day() ", "int lodgerCount() ", "int baseRent() ",
        "int tolerance() ", "int rentOf(int) " + BOUNDS, "int landladyVowel(int) " + BOUNDS,
        "int daysToInspection() ", "int evictions() ", "int undoCount() ", "int floorOf(int) " + BOUNDS,
        "int balanceOf(int) " + BOUNDS, "int vowelOf(int,int) " + BOUNDS, "int lessonsOf(int) " + BOUNDS,
        "int slipsOf(int) " + BOUNDS, "int daysStayed(int) " + BOUNDS, "int nameLength(int) " + BOUNDS,
        "char nameLetter(int,int) " + BOUNDS, "int findByName() ", "int lodgersOn(int) " + BOUNDS,
        "int lodgerOn(int,int) " + BOUNDS, "int averageVowel(int,int) " + BOUNDS + " " + STATE,
        "int distanceToLandlady(int) " + BOUNDS, "int distance(int,int) " + BOUNDS,
        "boolean rhymes(int,int) " + BOUNDS, "boolean rhymesWithLandlady(int) " + BOUNDS,
        "int rhymeCount(int) " + BOUNDS, "int closestTo(int) " + BOUNDS, "int lessonVowel(int) " + BOUNDS,
        "int slipVowel(int) " + BOUNDS, "boolean mustGo(int) " + BOUNDS, "double meanDistance() ",
        "float rhymingShare() ", "int balanceAfter(int,int) " + BOUNDS + " " + ARGUMENT,
        "int distanceAfter(int,int) " + BOUNDS + " " + ARGUMENT, "int daysToEviction(int) " + BOUNDS,
        "int paymentToStay(int) " + BOUNDS, "int totalPaid() ", "int totalCharged() ", "int settled() ",
        "int ledgerDifference() ", "int advance(int) " + ARGUMENT + " " + STATE,
        "int moveIn(int,int,int) " + ARGUMENT + " " + STATE, "int moveOut(int) " + BOUNDS,
        "int moveTo(int,int) " + BOUNDS + " " + ARGUMENT + " " + STATE,
        "int pay(int,int) " + BOUNDS + " " + ARGUMENT, "int setLandladyVowel(int,int) " + BOUNDS + " " + ARGUMENT,
        "int setTolerance(int) " + ARGUMENT, "int setBaseRent(int) " + ARGUMENT,
        "int restore(int) " + BOUNDS + " " + STATE, "int undo() " + STATE, "int save(int) " + BOUNDS,
        "int writeLodger(int) " + BOUNDS, "int writeFloor(int) " + BOUNDS, "char outputCharacter(int) " + BOUNDS,
    };

    public static void main(String[] args) {
        Check.equal("public final", AccentHouse.class.getModifiers(), Modifier.PUBLIC | Modifier.FINAL);
        Check.equal("NONE", AccentHouse.NONE, -1);
        checkMethods();
        checkOtherMembers();
        Check.finish();
    }

    private static void checkMethods() {
        Set<String> shown = new TreeSet<>();
        Set<String> publicNames = new TreeSet<>();
        for (Method method : AccentHouse.class.getDeclaredMethods()) {
            if (Modifier.isPublic(method.getModifiers())) {
                shown.add(describe(method));
                publicNames.add(method.getName());
            }
        }
        Check.equal("the public methods", shown, new TreeSet<>(Arrays.asList(FACE)));
        for (Method method : AccentHouse.class.getDeclaredMethods()) {
            boolean isPrivate = Modifier.isPrivate(method.getModifiers());
            Check.equal("a private one named " + method.getName(),
                    isPrivate && publicNames.contains(method.getName()), false);
            Check.equal("hidden or promised " + method.getName(),
                    isPrivate || Modifier.isPublic(method.getModifiers()), true);
        }
    }

    private static String describe(Method method) {
        String parameters = Arrays.stream(method.getParameterTypes()).map(Class::getSimpleName)
                .collect(Collectors.joining(","));
        String exceptions = Arrays.stream(method.getExceptionTypes()).map(Class::getSimpleName)
                .collect(Collectors.joining(" "));
        return method.getReturnType().getSimpleName() + " " + method.getName() + "(" + parameters + ") " + exceptions;
    }

    private static void checkOtherMembers() {
        Constructor<?>[] constructors = AccentHouse.class.getDeclaredConstructors();
        Check.equal("constructors", constructors.length, 1);
        Check.equal("the constructor is public", Modifier.isPublic(constructors[0].getModifiers()), true);
        Check.equal("the constructor's parameters", constructors[0].getParameterCount(), 0);
        for (Field field : AccentHouse.class.getDeclaredFields()) {
            Check.equal("field " + field.getName() + " is private", Modifier.isPrivate(field.getModifiers()),
                    !field.getName().equals("NONE"));
        }
    }
}
