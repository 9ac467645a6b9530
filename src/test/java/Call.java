import java.lang.reflect.InvocationTargetException;
import java.lang.reflect.Method;
import java.util.Arrays;
import java.util.StringJoiner;

/** A call of the face with its arguments (1 is true, 0 is false), to be made on any judge that has the face. */
record Call(String name, long... args) {
    /** The call of a text such as "told 0 -1 0". */
    static Call of(String text) {
        String[] words = text.split(" ");
        return new Call(words[0], Arrays.stream(words, 1, words.length).mapToLong(Long::parseLong).toArray());
    }

    long on(Object judge) {
        Method method = methodOf(judge.getClass());
        Class<?>[] types = method.getParameterTypes();
        if (types.length != args.length) {
            throw new IllegalArgumentException(name + " takes " + types.length + " arguments");
        }
        Object[] given = new Object[types.length];
        for (int i = 0; i < types.length; i++) {
            given[i] = as(types[i], args[i]);
        }
        try {
            return ((Number) method.invoke(judge, given)).longValue();
        } catch (InvocationTargetException | IllegalAccessException e) {
            throw new IllegalStateException(this + " threw", e);
        }
    }

    /** The same call with another argument at one place. */
    Call with(int place, long arg) {
        long[] others = args.clone();
        others[place] = arg;
        return new Call(name, others);
    }

    private Method methodOf(Class<?> judge) {
        for (Method m : judge.getDeclaredMethods()) {
            if (m.getName().equals(name)) {
                return m;
            }
        }
        throw new IllegalArgumentException("no call " + name);
    }

    private static Object as(Class<?> type, long arg) {
        if (type == boolean.class) {
            return arg != 0;
        }
        return type == int.class ? (Object) Math.toIntExact(arg) : (Object) arg;
    }

    @Override
    public String toString() {
        StringJoiner text = new StringJoiner(", ", name + "(", ")");
        for (long arg : args) {
            text.add(Long.toString(arg));
        }
        return text.toString();
    }
}
