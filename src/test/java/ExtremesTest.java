import java.lang.reflect.Method;
import java.lang.reflect.Modifier;

/** No call throws, and each ends, whatever its arguments are: on an empty house, on one in use and on a full one. */
public final class ExtremesTest {
    private static final int[] VALUES = {
        Integer.MIN_VALUE, Integer.MIN_VALUE + 1, -1000000000, -1, 0, 1, 3, 10, 1000, 1001, 1000000000, Integer.MAX_VALUE - 1, Integer.MAX_VALUE,
    };

    private ExtremesTest() {
    }

    public static void main(String[] args) {
        for (Method method : TableHouse.class.getDeclaredMethods()) {
            if (Modifier.isPublic(method.getModifiers())) {
                for (int state = 0; state < 3; state++) {
                    callWithAll(method, state);
                }
            }
        }
        Check.close();
    }

    private static void callWithAll(Method method, int state) {
        int many = method.getParameterCount();
        int[] chosen = new int[many];
        int calls = 1;
        for (int i = 0; i < many; i++) {
            calls *= many > 4 ? 5 : VALUES.length;
        }
        TableHouse x = house(state);
        for (int call = 0; call < calls; call++) {
            if (call % 64 == 63) {
                x = house(state);
            }
            int rest = call;
            for (int i = 0; i < many; i++) {
                int values = many > 4 ? 5 : VALUES.length;
                chosen[i] = VALUES[rest % values];
                rest /= values;
            }
            Check.due(method.getName() + java.util.Arrays.toString(chosen) + " of house " + state + " throws", throwsIt(method, x, chosen), false);
        }
    }

    private static boolean throwsIt(Method method, TableHouse x, int[] chosen) {
        Object[] arguments = new Object[chosen.length];
        for (int i = 0; i < chosen.length; i++) {
            arguments[i] = chosen[i];
        }
        try {
            method.invoke(x, arguments);
            return false;
        } catch (ReflectiveOperationException e) {
            System.out.println(e.getCause());
            return true;
        }
    }

    private static TableHouse house(int state) {
        TableHouse x = new TableHouse();
        for (int i = 0; state > 0 && i < (state == 1 ? 2 : 10); i++) {
            Check.text(x, "1/(x-" + i + ")");
            x.sheet();
            x.table(i, -3, 1001, 120);
            x.hand();
            x.habit(i, i % 3, 12);
            x.row(i);
        }
        Check.workAll(x, 0, 0, 1);
        x.set(0);
        x.engine(0, 0, 1);
        for (int i = 0; state > 1 && i < 40; i++) {
            x.habit(i % 8, i % 3, 34);
            x.stick(i % 5, i, 3);
            x.row(i * i);
            x.erratum(0, i % 12, i, i + 1);
            x.rival(0, i % 12, i);
            x.print(0, 5000);
            x.feed(i, i, i, i, i);
        }
        return x;
    }
}
