import java.lang.reflect.Constructor;
import java.lang.reflect.Field;
import java.lang.reflect.InvocationTargetException;
import java.lang.reflect.Method;
import java.lang.reflect.Modifier;
import java.util.ArrayList;
import java.util.Arrays;
import java.util.HashSet;
import java.util.List;
import java.util.Set;
import java.util.TreeSet;

/** The document's face and nothing beside it; no call that throws. The rest of LANGUAGE.md is LanguageTest's. */
public final class FaceTest {
    private static final String[] FACE = {"line 1", "goes 3", "shortens 1", "pocket 2", "widens 2", "touches 2",
        "sets 2", "of 2", "run 3", "about 2", "setting 1", "count 1", "draws 2", "length 1", "blocked 0", "can 1",
        "least 0", "greatest 0", "more 0", "bumps 1", "skew 2", "type 1", "clear 0", "does 0", "back 0", "told 1",
        "digest 0"};
    private static final int[] NUMBERS = {Integer.MIN_VALUE, -1000, -1, 0, 1, 2, 5, 6, 7, 8, 31, 32, 60, 61, 63, 64,
        119, 127, 128, 999, 1000, Integer.MAX_VALUE};
    private static int wrong = 0;

    private static void must(boolean holds, String what) {
        if (!holds) {
            wrong++;
            System.out.println(what);
        }
    }

    public static void main(String[] args) throws Exception {
        face();
        noCallThrows(new SnakedBus());
        noCallThrows(filled());
        System.out.println(wrong + " wrong");
        if (wrong != 0) {
            System.exit(1);
        }
    }

    private static boolean isPrivate(int modifiers) {
        return Modifier.isPrivate(modifiers);
    }

    private static void face() throws IllegalAccessException {
        int kind = SnakedBus.class.getModifiers();
        must(Modifier.isPublic(kind) && Modifier.isFinal(kind), "the class is public and final");
        Set<String> found = new TreeSet<>();
        Set<String> names = new HashSet<>();
        for (Method m : SnakedBus.class.getDeclaredMethods()) {
            if (Modifier.isPublic(m.getModifiers())) {
                found.add(m.getName() + " " + m.getParameterCount());
                names.add(m.getName());
                Class<?> due = m.getName().equals("digest") ? long.class : int.class;
                must(m.getReturnType() == due && !Modifier.isStatic(m.getModifiers()), m + " is not as in the face");
                for (Class<?> parameter : m.getParameterTypes()) {
                    must(parameter == int.class, m + " does not take int alone");
                }
            }
        }
        must(found.equals(new TreeSet<>(Arrays.asList(FACE))), "the public methods are " + found);
        for (Method m : SnakedBus.class.getDeclaredMethods()) {
            must(Modifier.isPublic(m.getModifiers()) || isPrivate(m.getModifiers()), m + " can be seen");
            must(!isPrivate(m.getModifiers()) || !names.contains(m.getName()), m + " bears a public name");
            must(m.getParameterCount() <= 7, m + " has too many parameters");
        }
        Constructor<?>[] makers = SnakedBus.class.getDeclaredConstructors();
        must(makers.length == 1 && Modifier.isPublic(makers[0].getModifiers()) && makers[0].getParameterCount() == 0,
            "one public constructor without parameters");
        Set<String> constants = new TreeSet<>();
        for (Field f : SnakedBus.class.getDeclaredFields()) {
            must(!Modifier.isStatic(f.getModifiers()) || Modifier.isFinal(f.getModifiers()), f + " is not final");
            must(Modifier.isPublic(f.getModifiers()) || isPrivate(f.getModifiers()), f + " can be seen");
            if (Modifier.isPublic(f.getModifiers())) {
                constants.add(f.getName() + f.getInt(null));
            }
        }
        must(constants.equals(new TreeSet<>(List.of("NONE-1", "BAD-2", "NO-3", "FULL-4"))), "constants: " + constants);
        for (Class<?> c : SnakedBus.class.getDeclaredClasses()) {
            must(Modifier.isStatic(c.getModifiers()) && !Modifier.isPublic(c.getModifiers()), c + " is not static");
            for (Method m : c.getDeclaredMethods()) {
                must(!names.contains(m.getName()), m + " bears a public name");
                must(m.getParameterCount() <= 7, m + " has too many parameters");
            }
        }
        must(SnakedBus.class.getDeclaredClasses().length <= 11, "too many classes");
    }

    private static SnakedBus filled() {
        SnakedBus x = new SnakedBus();
        for (int l = 0; l < 6; l++) {
            x.line(60);
            for (int i = 0; i < 7; i++) {
                x.goes(l, l % 2, 60);
            }
            x.pocket(60, 63);
        }
        x.sets(1, 1);
        x.sets(4, 500);
        for (int i = 0; i < 40; i++) {
            x.type('l');
            x.type('1');
            x.type(';');
        }
        return x;
    }

    private static void noCallThrows(SnakedBus x) throws IllegalAccessException {
        for (int round = 0; round < 3; round++) {
            for (Method m : SnakedBus.class.getDeclaredMethods()) {
                if (Modifier.isPublic(m.getModifiers())) {
                    for (Object[] numbers : allOf(m.getParameterCount())) {
                        callOnce(x, m, numbers);
                    }
                }
            }
            callEach(x);
        }
    }

    private static void callEach(SnakedBus x) {
        for (int v : NUMBERS) {
            x.line(v);
            x.pocket(60, 63);
            x.digest();
            x.does();
            x.back();
        }
    }

    private static List<Object[]> allOf(int parameters) {
        List<Object[]> all = new ArrayList<>();
        int many = (int) Math.pow(NUMBERS.length, parameters);
        for (int n = 0; n < many; n++) {
            Object[] some = new Object[parameters];
            for (int i = 0, rest = n; i < parameters; i++, rest /= NUMBERS.length) {
                some[i] = NUMBERS[rest % NUMBERS.length];
            }
            all.add(some);
        }
        return all;
    }

    private static void callOnce(SnakedBus x, Method m, Object[] numbers) throws IllegalAccessException {
        try {
            m.invoke(x, numbers);
        } catch (InvocationTargetException e) {
            must(false, m.getName() + Arrays.toString(numbers) + " threw " + e.getCause());
        }
    }
}
