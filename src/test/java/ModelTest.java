import java.lang.reflect.InvocationTargetException;
import java.lang.reflect.Method;
import java.lang.reflect.Modifier;
import java.util.ArrayList;
import java.util.Comparator;
import java.util.List;

/** Long runs of calls on SlideMills and on SlowMill, which must answer alike. */
public final class ModelTest {
    private static final int RUNS = 600;
    private static final int CALLS = 512;

    private static final Checks CHECKS = new Checks();
    private static final List<Method> CALLABLE = callable();
    private static final String[] PARTS = {"+", "-", "p0", "p1", "p2", "u", "u", "e", "l", "r", "r"};
    private static long seed = 7;

    private final SlideMills mill = new SlideMills();
    private final SlowMill slow = new SlowMill();
    private final StringBuilder log = new StringBuilder();
    private final int letters = 1 + below(4);
    private int calls = 0;

    public static void main(String[] args) {
        for (int run = 0; run < RUNS; run++) {
            new ModelTest().run();
        }
        CHECKS.end();
    }

    /** A row of numbers that is the same in each run of the test. */
    private static int below(int bound) {
        seed = seed * 6364136223846793005L + 1442695040888963407L;
        return (int) ((seed >>> 33) % bound);
    }

    private static List<Method> callable() {
        List<Method> methods = new ArrayList<>();
        for (Method method : SlideMills.class.getDeclaredMethods()) {
            if (Modifier.isPublic(method.getModifiers())) {
                methods.add(method);
            }
        }
        methods.sort(Comparator.comparing(Method::getName));
        return methods;
    }

    private void run() {
        while (calls < CALLS - 70) {
            int kind = below(10);
            if (kind < 3) {
                typeWorks();
                call("firstError");
                call("work");
                if (below(4) != 0) {
                    call("clearBuffer");
                }
            } else if (kind < 4) {
                call("addLetter", below(letters));
            } else {
                Method method = CALLABLE.get(below(CALLABLE.size()));
                Object[] arguments = new Object[method.getParameterCount()];
                for (int i = 0; i < arguments.length; i++) {
                    arguments[i] = argument();
                }
                call(method, arguments);
            }
            call("digest");
        }
    }

    private static int argument() {
        return switch (below(8)) {
            case 0 -> below(44) - 2;
            case 1 -> below(130) - 2;
            case 2 -> below(60) == 0 ? Integer.MIN_VALUE : below(20);
            case 3 -> below(60) == 0 ? Integer.MAX_VALUE : below(34);
            default -> below(6);
        };
    }

    private void typeWorks() {
        StringBuilder works = new StringBuilder();
        for (int part = below(5); part >= 0; part--) {
            works.append(works.length() > 0 ? ";" : "").append(part());
        }
        if (below(6) == 0) {
            works.insert(below(works.length() + 1), ";+-puelrabcd0123459,x".charAt(below(21)));
        }
        if (below(8) == 0) {
            works.setLength(below(works.length() + 1));
        }
        for (int i = 0; i < works.length() && i < 60; i++) {
            call("append", (int) works.charAt(i));
        }
    }

    private String part() {
        StringBuilder part = new StringBuilder(PARTS[below(PARTS.length)]);
        if (part.charAt(0) == '+') {
            for (int more = below(below(5) == 0 ? 30 : 12); more >= 0; more--) {
                part.append((char) ('a' + below(letters)));
            }
        } else if (part.charAt(0) == 'l') {
            part.append((char) ('a' + below(4)));
        } else if (part.charAt(0) == 'r') {
            part.append(1 + below(below(3) == 0 ? 39 : 4)).append(',').append(1 + below(below(3) == 0 ? 40 : 5));
        }
        return part.toString();
    }

    private void call(String name, Object... arguments) {
        for (Method method : CALLABLE) {
            if (method.getName().equals(name)) {
                call(method, arguments);
            }
        }
    }

    private void call(Method method, Object[] arguments) {
        if (calls >= CALLS) {
            return;
        }
        calls++;
        log.append(' ').append(method.getName()).append(List.of(arguments));
        try {
            Method same = SlowMill.class.getMethod(method.getName(), method.getParameterTypes());
            Object due = answer(same, slow, arguments);
            Object got = answer(method, mill, arguments);
            CHECKS.same(due.equals(got) ? "" : log.toString(), due, got);
        } catch (NoSuchMethodException e) {
            CHECKS.same(method.getName(), "a method of SlowMill", "none");
        }
    }

    private static Object answer(Method method, Object on, Object[] arguments) {
        return Checks.answer(() -> {
            try {
                return method.invoke(on, arguments);
            } catch (InvocationTargetException e) {
                return e.getCause().getClass().getSimpleName();
            }
        });
    }
}
