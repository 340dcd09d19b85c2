import java.lang.reflect.InvocationTargetException;
import java.lang.reflect.Method;
import java.lang.reflect.Modifier;
import java.util.ArrayList;
import java.util.Comparator;
import java.util.List;
import java.util.Random;

/** Any calls with any numbers: none fails, what is refused changes nothing, the same calls answer alike. */
public final class SoakTest {
    private static final int OBJECTS = 300;
    private static final int CALLS = 512;
    private static final int[] EDGES = {Integer.MIN_VALUE, Integer.MIN_VALUE + 1, -65536, -2, -1, 0, 1, 2, 3, 4, 5, 8,
        11, 12, 13, 16, 17, 30, 31, 32, 40, 41, 63, 64, 65, 99, 100, 255, 4095, 4096, 65535, 65536, 1 << 30,
        Integer.MAX_VALUE - 1, Integer.MAX_VALUE};
    private static final String[] TEXTS = {"frame 9; ", "least 3; ", "most 12;", "grow 40 300; ", "shrink 30 20; ",
        "above 6;", "rounds 7; ", "frame 70;", "most ", ";", "4 4", "rounds 00040;", "x"};

    public static void main(String[] args) {
        List<Method> calls = new ArrayList<>();
        for (Method method : TagReader.class.getDeclaredMethods()) {
            if (Modifier.isPublic(method.getModifiers())) {
                calls.add(method);
            }
        }
        calls.sort(Comparator.comparing(Method::getName));
        for (int seed = 0; seed < OBJECTS; seed++) {
            soak(calls, seed);
        }
        Check.finish("SoakTest");
    }

    private static void soak(List<Method> calls, int seed) {
        Random random = new Random(seed);
        TagReader x = new TagReader();
        TagReader twin = new TagReader();
        for (int i = 0; i < CALLS && Check.isAllRight(); i++) {
            if (random.nextInt(12) == 0) {
                String text = TEXTS[random.nextInt(TEXTS.length)];
                Check.type(x, text);
                Check.type(twin, text);
            }
            Method call = calls.get(random.nextInt(calls.size()));
            Object[] arguments = arguments(call, random);
            String before = state(x);
            long answer = answer(x, call, arguments);
            if (answer < 0 && !mayChangeThough(call.getName())) {
                Check.holds(call.getName() + " refused changes nothing", before.equals(state(x)));
            }
            Check.due("twin: " + call.getName(), answer(twin, call, arguments), answer);
        }
        Check.holds("twins are alike at the end", state(x).equals(state(twin)));
    }

    private static boolean mayChangeThough(String name) {
        return name.equals("rules") || name.equals("all");
    }

    private static Object[] arguments(Method call, Random random) {
        Class<?>[] types = call.getParameterTypes();
        Object[] arguments = new Object[types.length];
        for (int i = 0; i < types.length; i++) {
            if (types[i] == boolean.class) {
                arguments[i] = random.nextBoolean();
            } else if (types[i] == long.class) {
                arguments[i] = random.nextLong();
            } else {
                arguments[i] = number(random);
            }
        }
        return arguments;
    }

    private static int number(Random random) {
        switch (random.nextInt(4)) {
            case 0:
                return EDGES[random.nextInt(EDGES.length)];
            case 1:
                return random.nextInt(64);
            default:
                return random.nextInt(6);
        }
    }

    private static long answer(TagReader x, Method call, Object[] arguments) {
        try {
            return ((Number) call.invoke(x, arguments)).longValue();
        } catch (InvocationTargetException | IllegalAccessException failure) {
            failure.getCause().printStackTrace(System.out);
            Check.holds(call.getName() + " does not fail", false);
            return 0;
        }
    }

    /** All that can be asked without changing anything. */
    private static String state(TagReader x) {
        StringBuilder text = new StringBuilder();
        for (int what = 0; what < 9; what++) {
            text.append(x.count(what)).append(' ').append(x.rule(what)).append(' ').append(x.grown(what)).append(' ');
            text.append(x.shown(what)).append(' ').append(x.went(what)).append(' ');
        }
        for (int t = 0; t < x.count(1); t++) {
            text.append(x.of(t, 0)).append('/').append(x.of(t, 1)).append('/').append(x.of(t, 2)).append(' ');
        }
        for (int i = 0; i < x.count(4); i++) {
            text.append(x.heard(i, 0)).append('/').append(x.heard(i, 1)).append(' ');
        }
        text.append(x.fault()).append(' ').append(x.torn()).append(' ').append(x.missing(30, 1, 0)).append(' ');
        text.append(x.ask(0, 0, 0)).append(' ').append(x.ask(0, 0, 1)).append(' ').append(x.ask(0, 0, 2));
        return text.toString();
    }
}
