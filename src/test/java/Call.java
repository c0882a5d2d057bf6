import java.lang.reflect.InvocationTargetException;
import java.lang.reflect.Method;
import java.util.Arrays;
import java.util.HashMap;
import java.util.Map;

/** A call by its name and numbers, to be made on a LayerQuantities or a PlainModel. */
final class Call {
    static final String BAD_ARGUMENT = "throws.IllegalArgumentException";
    static final String BAD_STATE = "throws.IllegalStateException";

    /** Looking a method up costs far more than the call, and the tests make a million calls. */
    private static final Map<String, Method> FOUND = new HashMap<>();

    private final String name;
    private final Object[] numbers;

    Call(String name, int... numbers) {
        this.name = name;
        this.numbers = new Object[numbers.length];
        for (int i = 0; i < numbers.length; i++) {
            this.numbers[i] = numbers[i];
        }
    }

    /** What the call answers; "null" if it has no answer; "throws." and a name if it throws. */
    String on(Object x) {
        try {
            return String.valueOf(methodOf(x).invoke(x, numbers));
        } catch (InvocationTargetException e) {
            return "throws." + e.getCause().getClass().getSimpleName();
        } catch (IllegalAccessException e) {
            throw new AssertionError(this + " can't be seen", e);
        }
    }

    private Method methodOf(Object x) {
        return FOUND.computeIfAbsent(x.getClass() + " " + name + " " + numbers.length,
                key -> search(x.getClass()));
    }

    /** Name and number of parameters are enough: all parameters are int. */
    private Method search(Class<?> type) {
        for (Method m : type.getDeclaredMethods()) {
            if (m.getName().equals(name) && m.getParameterCount() == numbers.length) {
                return m;
            }
        }
        throw new AssertionError("no call " + this);
    }

    @Override
    public String toString() {
        String list = Arrays.toString(numbers);
        return name + "(" + list.substring(1, list.length() - 1) + ")";
    }
}
