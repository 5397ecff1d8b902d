import java.lang.reflect.InvocationTargetException;
import java.lang.reflect.Method;
import java.util.ArrayList;
import java.util.Arrays;
import java.util.Comparator;
import java.util.List;
import java.util.Random;

/**
 * Random runs of 512 calls: only what the face names is thrown; the same calls give the same answers; and a shop
 * in which the calls that threw were never made answers alike, so that these changed nothing.
 */
public final class FuzzTest {
    private static final int CALLS = 512;
    private static final String[] PATHS = {"eeee", "een", "ennw", "uuee", "eenneess", "enenenene", "nnwwss", "ew",
        "eeennnwwwss", "uueedd", "wwwwwwwwwwww"};

    public static void main(String[] args) throws IllegalAccessException {
        for (int seed = 0; seed < 400; seed++) {
            run(seed);
        }
        Check.end(FuzzTest.class);
    }

    private static void run(int seed) throws IllegalAccessException {
        Random random = new Random(seed);
        Method[] methods = publicMethods();
        Neonworks shop = new Neonworks();
        List<Method> called = new ArrayList<>();
        List<Object[]> given = new ArrayList<>();
        List<Object> answers = new ArrayList<>();
        while (called.size() < CALLS) {
            plan(random, methods, called, given);
        }
        int thrown = 0;
        for (int i = 0; i < CALLS; i++) {
            Object answer = answer(shop, called.get(i), given.get(i));
            answers.add(answer);
            thrown += answer instanceof Class ? 1 : 0;
            boolean isNamed = !(answer instanceof Class)
                    || Arrays.asList(called.get(i).getExceptionTypes()).contains(answer);
            Check.same(called.get(i).getName() + Arrays.toString(given.get(i)) + " threw " + answer, isNamed, true);
        }
        Neonworks same = new Neonworks();
        Neonworks without = new Neonworks();
        for (int i = 0; i < CALLS; i++) {
            String what = "seed " + seed + ", call " + i + ", " + called.get(i).getName();
            Check.same(what, answer(same, called.get(i), given.get(i)), answers.get(i));
            if (!(answers.get(i) instanceof Class)) {
                Check.same(what + " without those that threw", answer(without, called.get(i), given.get(i)),
                        answers.get(i));
            }
        }
        Check.same("some calls threw, some did not", thrown > 20 && thrown < CALLS - 50, true);
    }

    private static Method[] publicMethods() {
        Method[] methods = Arrays.stream(Neonworks.class.getDeclaredMethods())
                .filter(method -> java.lang.reflect.Modifier.isPublic(method.getModifiers())).toArray(Method[]::new);
        Arrays.sort(methods, Comparator.comparing(Method::getName));
        return methods;
    }

    /** Adds one random call, or the few that make a tube, or that light one up. */
    private static void plan(Random random, Method[] methods, List<Method> called, List<Object[]> given) {
        int kind = random.nextInt(12);
        if (kind == 0) {
            for (char letter : PATHS[random.nextInt(PATHS.length)].toCharArray()) {
                add(methods, called, given, "type", letter);
            }
            add(methods, called, given, "tube", 8, random.nextInt(200), random.nextInt(200), random.nextInt(5));
        } else if (kind == 1) {
            int tube = random.nextInt(5);
            add(methods, called, given, "pump", tube, 20);
            add(methods, called, given, "burn", tube, 300);
            add(methods, called, given, "fill", tube, random.nextBoolean() ? 'n' : 'a', 14 + random.nextInt(5));
            add(methods, called, given, "load", random.nextInt(2), tube);
            add(methods, called, given, "hang", random.nextInt(2), tube, 'A');
            add(methods, called, given, "wire", tube, 'd', 0, 0);
        } else {
            Method method = methods[random.nextInt(methods.length)];
            Class<?>[] types = method.getParameterTypes();
            Object[] arguments = new Object[types.length];
            for (int i = 0; i < types.length; i++) {
                arguments[i] = argument(random, types[i]);
            }
            called.add(method);
            given.add(arguments);
        }
    }

    private static void add(Method[] methods, List<Method> called, List<Object[]> given, String name, Object... with) {
        for (Method method : methods) {
            if (method.getName().equals(name)) {
                called.add(method);
                given.add(with);
            }
        }
    }

    private static Object argument(Random random, Class<?> type) {
        if (type == boolean.class) {
            return random.nextBoolean();
        }
        if (type == char.class) {
            String letters = "ewnsudnarogbxyzcdl10-ABCZ";
            return random.nextInt(20) == 0 ? (char) random.nextInt(65536) : letters.charAt(random.nextInt(letters.length()));
        }
        long number;
        switch (random.nextInt(10)) {
            case 0:
                number = random.nextInt();
                break;
            case 1:
                int[] edges = {Integer.MIN_VALUE, Integer.MAX_VALUE, -1, 0, 1, 8, 10, 12, 15, 60, 1000};
                number = edges[random.nextInt(edges.length)];
                break;
            case 2:
                number = random.nextInt(400);
                break;
            case 3:
                number = 1 + random.nextInt(30);
                break;
            default:
                number = random.nextInt(4);
                break;
        }
        if (type == long.class) {
            return random.nextInt(4) == 0 ? random.nextLong() : random.nextInt(3) == 0 ? 12345678L : number;
        }
        return (int) number;
    }

    /** The answer, or the class of what was thrown; Error where the machine or the library threw it. */
    private static Object answer(Neonworks shop, Method method, Object[] with) throws IllegalAccessException {
        try {
            return method.invoke(shop, with);
        } catch (InvocationTargetException thrown) {
            Throwable cause = thrown.getCause();
            return Check.isThrownByClass(cause) ? cause.getClass() : Error.class;
        }
    }
}
