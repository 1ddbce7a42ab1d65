import java.lang.reflect.Method;
import java.lang.reflect.Modifier;
import java.util.ArrayList;
import java.util.Comparator;
import java.util.List;
import java.util.Random;

/** No call throws, for any arguments in any state, and one that is refused changes nothing. */
public final class AnyArgumentsTest {
    private static final int[] ODD = {Integer.MIN_VALUE, Integer.MIN_VALUE + 9, -1000000000, -31, -2, -1, 0, 1, 2, 3, 4, 5, 9, 10, 11, 12,
        13, 19, 20, 21, 22, 29, 30, 31, 32, 39, 40, 59, 60, 61, 120, 121, 240, 241, 260, 1023, 1024, 65535, 65536, 999999,
        1000000, Integer.MAX_VALUE - 9, Integer.MAX_VALUE};

    private AnyArgumentsTest() {
    }

    public static void main(String[] args) throws Exception {
        List<Method> methods = new ArrayList<>();
        for (Method method : MissedTown.class.getDeclaredMethods()) {
            if (Modifier.isPublic(method.getModifiers())) {
                methods.add(method);
            }
        }
        methods.sort(Comparator.comparing(Method::getName));
        Random random = new Random(5);
        for (int run = 0; run < 150; run++) {
            MissedTown x = run % 3 == 0 ? new MissedTown() : PromisesTest.three("a0-3,b2-9,e5-999");
            for (int k = 0; k < 500; k++) {
                call(x, methods.get(random.nextInt(methods.size())), random);
            }
        }
        Checks.end();
    }

    private static void call(MissedTown x, Method method, Random random) {
        Object[] values = new Object[method.getParameterCount()];
        for (int k = 0; k < values.length; k++) {
            values[k] = ODD[random.nextInt(ODD.length)];
        }
        String before = state(x);
        try {
            Object answer = method.invoke(x, values);
            boolean refused = answer.equals(false) || answer.equals(-1000000000);
            Checks.due(method.getName() + " refused, but the state is another", !refused || before.equals(state(x)), true);
        } catch (ReflectiveOperationException thrown) {
            Checks.fail(method.getName() + List.of(values) + " threw " + thrown.getCause());
        }
    }

    private static String state(MissedTown x) {
        StringBuilder text = new StringBuilder();
        for (int what = 0; what < 10; what++) {
            text.append(x.count(what)).append(' ');
        }
        for (int p = 0; p < 10; p++) {
            for (int what = 0; what < 5; what++) {
                text.append(x.personIs(p, what)).append(' ');
            }
        }
        for (int i = 0; i < 12; i++) {
            text.append(x.choreIs(i, 0)).append(' ').append(x.choreIs(i, 1)).append(' ').append(x.choreIs(i, 2)).append(' ');
        }
        return text.toString();
    }
}
