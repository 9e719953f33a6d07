import java.lang.reflect.InvocationTargetException;
import java.lang.reflect.Method;
import java.lang.reflect.Modifier;
import java.util.ArrayList;
import java.util.Arrays;
import java.util.HashMap;
import java.util.List;
import java.util.Map;
import java.util.TreeMap;
import java.util.stream.Collectors;

/** A call by its name and its arguments, so that the same one can be asked of several objects, and of the Model too. */
record Call(String name, List<Long> arguments) {
    /** An object is used for as many calls as this after it has been made. */
    static final int MOST = 512;

    private static final Map<Class<?>, Map<String, Method>> METHODS = new HashMap<>();

    static Call of(String name, long... arguments) {
        return new Call(name, Arrays.stream(arguments).boxed().toList());
    }

    /** The names of all that can be called, with how many arguments each one takes. */
    static Map<String, Integer> face() {
        Map<String, Integer> face = new TreeMap<>();
        methods(KinkStreet.class).forEach((name, method) -> face.put(name, method.getParameterCount()));
        return face;
    }

    private static Map<String, Method> methods(Class<?> of) {
        return METHODS.computeIfAbsent(of, c -> {
            Map<String, Method> methods = new HashMap<>();
            for (Method m : c.getDeclaredMethods()) {
                if (!Modifier.isPrivate(m.getModifiers()) && !m.isSynthetic()) {
                    m.setAccessible(true);
                    methods.put(m.getName(), m);
                }
            }
            return methods;
        });
    }

    long on(Object asked) {
        Method method = methods(asked.getClass()).get(name);
        Object[] values = new Object[arguments.size()];
        for (int i = 0; i < values.length; i++) {
            boolean isLong = method.getParameterTypes()[i] == long.class;
            values[i] = isLong ? (Object) arguments.get(i) : (Object) arguments.get(i).intValue();
        }
        try {
            return ((Number) method.invoke(asked, values)).longValue();
        } catch (InvocationTargetException e) {
            throw new IllegalStateException(this + " threw", e.getCause());
        } catch (IllegalAccessException e) {
            throw new IllegalStateException(e);
        }
    }

    static List<Long> all(List<Call> calls, Object asked) {
        List<Long> answers = new ArrayList<>();
        for (Call call : calls) {
            answers.add(call.on(asked));
        }
        return answers;
    }

    /** Whether the document says of this answer that it changes nothing; numbers that may be below 0 are none. */
    boolean isRefusedBy(long answer) {
        switch (name) {
            case "mend": return answer == KinkStreet.VOID;
            case "law": return answer == KinkStreet.FULL;
            case "of", "act", "element": return false;
            default: return answer < 0;
        }
    }

    @Override
    public String toString() {
        return name + arguments.stream().map(String::valueOf).collect(Collectors.joining(", ", "(", ")"));
    }
}
