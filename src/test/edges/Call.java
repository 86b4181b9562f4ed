import java.lang.reflect.InvocationTargetException;
import java.lang.reflect.Method;
import java.util.ArrayList;
import java.util.HashMap;
import java.util.List;
import java.util.Map;
import java.util.regex.Matcher;
import java.util.regex.Pattern;

/** A call of SnakedBus, told as "goes(0,1,5)". */
final class Call {
    private static final Pattern FORM = Pattern.compile("(\\w+)\\(([-0-9, ]*)\\)");
    private static final Map<String, Method> METHODS = new HashMap<>();

    static {
        for (Method m : SnakedBus.class.getMethods()) {
            if (m.getDeclaringClass() == SnakedBus.class) {
                METHODS.put(m.getName(), m);
            }
        }
    }

    final String name;
    private final Object[] numbers;

    private Call(String name, Object[] numbers) {
        this.name = name;
        this.numbers = numbers;
    }

    static List<Call> all(String text) {
        List<Call> calls = new ArrayList<>();
        Matcher m = FORM.matcher(text);
        while (m.find()) {
            String inside = m.group(2).replace(" ", "");
            String[] words = inside.isEmpty() ? new String[0] : inside.split(",");
            Object[] numbers = new Object[words.length];
            for (int i = 0; i < words.length; i++) {
                numbers[i] = Integer.parseInt(words[i]);
            }
            calls.add(new Call(m.group(1), numbers));
        }
        return calls;
    }

    static Call one(String text) {
        List<Call> calls = all(text);
        if (calls.size() != 1) {
            throw new IllegalArgumentException("not one call: " + text);
        }
        return calls.get(0);
    }

    /** A new object behind these calls. */
    static SnakedBus behind(List<Call> calls) {
        SnakedBus x = new SnakedBus();
        for (Call c : calls) {
            c.ask(x);
        }
        return x;
    }

    long ask(SnakedBus x) {
        try {
            return ((Number) METHODS.get(name).invoke(x, numbers)).longValue();
        } catch (InvocationTargetException e) {
            throw new IllegalStateException(this + " threw", e.getCause());
        } catch (IllegalAccessException e) {
            throw new IllegalStateException(e);
        }
    }

    @Override
    public String toString() {
        StringBuilder text = new StringBuilder(name).append('(');
        for (int i = 0; i < numbers.length; i++) {
            text.append(i == 0 ? "" : ",").append(numbers[i]);
        }
        return text.append(')').toString();
    }
}
