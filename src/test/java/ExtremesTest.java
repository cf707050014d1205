import java.lang.reflect.InvocationTargetException;
import java.lang.reflect.Method;
import java.lang.reflect.Modifier;
import java.util.ArrayList;
import java.util.Arrays;
import java.util.Comparator;
import java.util.List;

/**
 * All promises: every call with every mixture of NUMBERS doesn't throw and answers as the model does;
 * on a new square, on one with somebody, on a full one. The other ends of ranges are in ..EdgesTest.
 */
public final class ExtremesTest {
    private static final Due due = new Due();

    private static final int[] NUMBERS = {
        Due.LEAST, Due.LEAST + 1, -2, -1, 0, 1, 7, 8, 40, 41, 60, Due.MOST - 1, Due.MOST,
    };

    public static void main(String[] args) throws ReflectiveOperationException {
        List<Method> face = new ArrayList<>();
        for (Method m : LavenderParts.class.getDeclaredMethods()) {
            if (Modifier.isPublic(m.getModifiers())) {
                face.add(m);
            }
        }
        // The order in which methods are told is free, and a square keeps what calls did to it.
        face.sort(Comparator.comparing(Method::getName));
        for (int singers : new int[] {0, 1, 8}) {
            for (Method m : face) {
                Object[] both = {new LavenderParts(), new Model()};
                prepare(both, singers);
                everyMixture(both, m.getName(), new Object[m.getParameterCount()], 0);
            }
        }
        due.end();
    }

    private static void prepare(Object[] both, int singers) throws ReflectiveOperationException {
        for (int who = 0; who < singers; who++) {
            same(both, "singer", who % 7, 59 - who);
            same(both, "change", who, 2, who - 1);
            same(both, "hold", who, who);
        }
        if (singers > 0) {
            same(both, "strike", 0);
            for (int s = 0; s < 4; s++) {
                same(both, "sheet", s, 8 << Math.max(0, s - 1), 10 * (s + 1));
            }
            same(both, "image");
        }
    }

    private static void everyMixture(Object[] both, String name, Object[] arguments, int place)
        throws ReflectiveOperationException {
        if (place == arguments.length) {
            same(both, name, arguments);
            return;
        }
        for (int v : NUMBERS) {
            arguments[place] = v;
            everyMixture(both, name, arguments, place + 1);
        }
    }

    private static void same(Object[] both, String name, Object... arguments)
        throws ReflectiveOperationException {
        String text = name + Arrays.toString(arguments);
        due.is(text, answer(both[0], name, arguments, text), answer(both[1], name, arguments, text));
    }

    private static long answer(Object on, String name, Object[] arguments, String text)
        throws ReflectiveOperationException {
        Class<?>[] types = new Class<?>[arguments.length];
        Arrays.fill(types, int.class);
        Method method = on.getClass().getDeclaredMethod(name, types);
        try {
            return ((Number) method.invoke(on, arguments)).longValue();
        } catch (InvocationTargetException e) {
            due.is(text + " threw " + e.getCause(), 1, 0);
            return 0;
        }
    }
}
