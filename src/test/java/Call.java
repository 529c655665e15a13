import java.lang.reflect.Method;
import java.util.Arrays;
import java.util.HashMap;
import java.util.Map;
import java.util.stream.Collectors;

/** Calls by their names, so that what was asked can be told beside its answer. */
final class Call {
    private static final Map<String, Method> METHODS = new HashMap<>();

    static {
        for (Method m : PicnicOfSomebody.class.getMethods()) {
            if (m.getDeclaringClass() == PicnicOfSomebody.class) {
                METHODS.put(m.getName(), m);
            }
        }
    }

    static long answer(PicnicOfSomebody x, String name, int... given) {
        try {
            return ((Number) METHODS.get(name).invoke(x, Arrays.stream(given).boxed().toArray())).longValue();
        } catch (ReflectiveOperationException e) {
            throw new IllegalStateException(told(name, given), e);
        }
    }

    static String told(String name, int... given) {
        return Arrays.stream(given).mapToObj(Integer::toString).collect(Collectors.joining(", ", name + "(", ")"));
    }

    /** What a call answers that is refused with a number. */
    static long refusal(String name, int number) {
        switch (name) {
            case "stranger":
                return 1000000000L - number;
            case "wind":
            case "mean":
                return 4000000000000000000L - number;
            default:
                return number;
        }
    }
}
