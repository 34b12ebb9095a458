import java.lang.reflect.InvocationTargetException;
import java.lang.reflect.Method;
import java.lang.reflect.Modifier;
import java.util.ArrayList;
import java.util.Arrays;
import java.util.Comparator;
import java.util.List;
import java.util.Random;

/** Runs of up to 512 calls, the same in every run of the test, on the class and on the Model side by side. */
public final class ModelTest {
    private static final int RUNS = 600;
    private static final int CALLS = 500;
    private static final int APPENDS = 30;
    private static final int[] EDGES = {-1, 5, 10, 12, 45, 46, 50, 51, 100, 101, 999, 1000, 99999, 100000,
        Integer.MIN_VALUE, Integer.MAX_VALUE};
    private static final String[] NAMES = {"ann", "bob", "cid", "dot", "a", "b", "c", "zoe", "lodger", "pay", "longer"};

    private final Random random;
    private final AccentHouse house = new AccentHouse();
    private final Model model = new Model();
    private final List<String> calls = new ArrayList<>();
    private boolean differs = false;

    private ModelTest(long seed) {
        random = new Random(seed);
    }

    public static void main(String[] args) throws Exception {
        List<Method> methods = new ArrayList<>();
        for (Method method : AccentHouse.class.getDeclaredMethods()) {
            if (Modifier.isPublic(method.getModifiers())) {
                methods.add(method);
            }
        }
        // The order of getDeclaredMethods is not fixed.
        methods.sort(Comparator.comparing(Method::getName));
        for (int seed = 0; seed < RUNS; seed++) {
            new ModelTest(seed).run(methods);
        }
        Check.finish();
    }

    private void run(List<Method> methods) throws Exception {
        boolean isLong = random.nextInt(8) == 0;
        while (calls.size() < CALLS && !differs) {
            int choice = random.nextInt(100);
            if (choice < 3 && calls.size() + APPENDS < CALLS) {
                loadText();
            } else if (choice < 8) {
                call("moveIn", random.nextInt(5), random.nextInt(300), random.nextInt(100000));
            } else if (choice < 12) {
                call("advance", isLong ? 100 : 1 + random.nextInt(8));
            } else if (choice < 14) {
                loadName();
            } else {
                Method method = methods.get(random.nextInt(methods.size()));
                Object[] arguments = new Object[method.getParameterCount()];
                for (int i = 0; i < arguments.length; i++) {
                    arguments[i] = argument(method.getName());
                }
                // An own text begins in an empty buffer, so other bytes come only once in a while.
                if (!method.getName().equals("append") || random.nextInt(8) == 0) {
                    call(method.getName(), arguments);
                }
            }
        }
    }

    private int argument(String method) {
        int choice = random.nextInt(20);
        if (choice == 0) {
            return EDGES[random.nextInt(EDGES.length)];
        }
        if (method.equals("save") || method.equals("restore")) {
            return random.nextInt(2);
        }
        if (choice < 4) {
            return random.nextInt(130);
        }
        // Asked of the model, as an object answers 512 calls and no more.
        return random.nextInt(Math.max(5, model.lodgerCount()));
    }

    private void call(String name, Object... arguments) throws Exception {
        Class<?>[] types = new Class<?>[arguments.length];
        Arrays.fill(types, int.class);
        calls.add(name + Arrays.toString(arguments));
        String got = answer(AccentHouse.class.getDeclaredMethod(name, types), house, arguments);
        String due = answer(Model.class.getDeclaredMethod(name, types), model, arguments);
        differs = differs || !got.equals(due);
        Check.equal(got.equals(due) ? name : "the last of " + calls, got, due);
    }

    private static String answer(Method method, Object target, Object[] arguments) throws Exception {
        try {
            return String.valueOf(method.invoke(target, arguments));
        } catch (InvocationTargetException e) {
            return "throws " + e.getCause().getClass().getName();
        }
    }

    private void feed(String text) throws Exception {
        for (int from = 0; from < text.length(); from += 20) {
            Object[] words = new Object[5];
            for (int i = 0; i < 5; i++) {
                int word = 0;
                for (int at = from + 4 * i; at < from + 4 * i + 4; at++) {
                    word = word << 8 | (at < text.length() ? text.charAt(at) : ' ');
                }
                words[i] = word;
            }
            call("append", words);
        }
    }

    private void emptyBuffer() throws Exception {
        call("load", 0);
    }

    private void loadName() throws Exception {
        emptyBuffer();
        StringBuilder padded = new StringBuilder(NAMES[random.nextInt(NAMES.length)]);
        for (int i = random.nextInt(6); i > 0; i--) {
            padded.insert(0, ' ');
        }
        feed(padded.toString());
        call("findByName");
    }

    private void loadText() throws Exception {
        emptyBuffer();
        String text = text();
        feed(text);
        call("load", text.length());
        call("errorKind");
        call("errorOffset");
    }

    private String text() {
        StringBuilder text = new StringBuilder("house " + random.nextInt(51) + " " + random.nextInt(46) + ";landlady");
        positions(text);
        for (int lines = random.nextInt(24); lines > 0; lines--) {
            text.append(random.nextInt(5) == 0 ? " ;\n" : ";");
            line(text);
        }
        text.setLength(Math.min(text.length(), 600));
        if (random.nextInt(3) == 0) {
            spoil(text);
        }
        return text.toString();
    }

    private void line(StringBuilder text) {
        String name = NAMES[random.nextInt(NAMES.length)];
        int choice = random.nextInt(16);
        if (choice < 10) {
            String fresh = random.nextInt(9) == 0 ? name : "" + (char) ('a' + random.nextInt(26)) + (char) ('a' + random.nextInt(26));
            text.append("lodger ").append(fresh).append(' ').append(random.nextInt(5)).append(' ').append(random.nextInt(300));
            positions(text);
        } else if (choice == 10) {
            text.append("pay ").append(known(text, name)).append(' ').append(1 + random.nextInt(999));
        } else if (choice == 11) {
            text.append("move ").append(known(text, name)).append(' ').append(random.nextInt(5));
        } else {
            text.append("days ").append(1 + random.nextInt(random.nextInt(4) == 0 ? 100 : 6));
        }
    }

    /** Some name that a line before gave, if there is one; its lodger may have left. */
    private String known(StringBuilder text, String other) {
        int at = text.indexOf("lodger ", random.nextInt(text.length()));
        return at < 0 ? other : text.substring(at + 7).split(" ")[0];
    }

    private void positions(StringBuilder text) {
        for (int vowel = 0; vowel < 5; vowel++) {
            text.append(' ').append(random.nextInt(10));
        }
    }

    private void spoil(StringBuilder text) {
        String signs = " \n;a0z9xA\t\u00ff\u0000";
        int at = random.nextInt(text.length());
        char sign = signs.charAt(random.nextInt(signs.length()));
        int choice = random.nextInt(4);
        if (choice == 0) {
            text.setCharAt(at, sign);
        } else if (choice == 1 && text.length() < 600) {
            text.insert(at, sign);
        } else if (choice == 2) {
            text.deleteCharAt(at);
        } else {
            text.setLength(at);
        }
    }
}
