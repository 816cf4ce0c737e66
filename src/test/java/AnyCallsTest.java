import java.lang.reflect.InvocationTargetException;
import java.lang.reflect.Method;
import java.util.Arrays;
import java.util.Comparator;

/**
 * Calls of any kind with any arguments: none throws, the same calls answer the same, and what is refused
 * changes nothing that can be seen. Each object gets 512 calls at most.
 */
public final class AnyCallsTest {
    private static final int[] EDGES = {Integer.MIN_VALUE, -900009, -2, -1, 0, 1, 2, 3, 4, 7, 8, 9, 10, 11, 12, 13, 15, 16, 19, 20, 39,
        40, 49, 50, 51, 59, 60, 61, 99, 100, 101, 199, 200, 201, 399, 400, 401, 598, 599, 600, 2999, 3000, 3001, 9999, 10000, 10001,
        99999, 100000, 100001, Integer.MAX_VALUE};
    private static final String[] TEXTS = {"a>1", "&", "|", "!w=1", "(m>2", ")", " ", "o>500&d", "<40000", "m>3&w=0", "9", "x"};

    private static Method[] face;

    public static void main(String[] args) throws ReflectiveOperationException {
        face = BoxcarHouses.class.getDeclaredMethods();
        face = Arrays.stream(face).filter(m -> java.lang.reflect.Modifier.isPublic(m.getModifiers())).toArray(Method[]::new);
        // the order in which reflection tells methods is not promised
        Arrays.sort(face, Comparator.comparing(Method::getName));
        for (int run = 0; run < 150; run++) {
            sameAnswers(run % 3);
        }
        for (int run = 0; run < 150; run++) {
            refusals(run % 3);
        }
        Due.end();
    }

    private static void sameAnswers(int kind) throws ReflectiveOperationException {
        BoxcarHouses x = new BoxcarHouses();
        BoxcarHouses y = new BoxcarHouses();
        for (int i = 0; i < 512; i++) {
            Method m = face[Due.any(0, face.length - 1)];
            Object[] with = arguments(m, kind);
            Due.is(told(m, with), call(x, m, with), call(y, m, with));
        }
    }

    /** A copy gets only the calls that were not refused: both look alike in the end. */
    private static void refusals(int kind) throws ReflectiveOperationException {
        BoxcarHouses x = new BoxcarHouses();
        BoxcarHouses y = new BoxcarHouses();
        for (int i = 0; i < 240; i++) {
            Method m = face[Due.any(0, face.length - 1)];
            Object[] with = arguments(m, kind);
            long answer = call(x, m, with);
            if (answer > Due.UNKNOWN || answer < Due.FULL) {
                Due.is(told(m, with), call(y, m, with), answer);
            }
        }
        long[] seen = look(x);
        long[] due = look(y);
        for (int i = 0; i < seen.length; i++) {
            Due.is("look " + i, seen[i], due[i]);
        }
    }

    private static long call(BoxcarHouses x, Method m, Object[] with) throws ReflectiveOperationException {
        try {
            return ((Number) m.invoke(x, with)).longValue();
        } catch (InvocationTargetException e) {
            Due.truth(told(m, with) + " threw " + e.getCause(), false);
            return 0;
        }
    }

    private static String told(Method m, Object[] with) {
        return m.getName() + Arrays.toString(with);
    }

    /** Kind 0: edges of all sorts; 1: small numbers; 2: both. */
    private static Object[] arguments(Method m, int kind) {
        Class<?>[] types = m.getParameterTypes();
        Object[] with = new Object[types.length];
        for (int i = 0; i < with.length; i++) {
            boolean small = kind == 1 || kind == 2 && Due.chance(80);
            if (types[i] == boolean.class) {
                with[i] = Due.chance(60);
            } else if (types[i] == long.class) {
                with[i] = Due.chance(90) ? Due.packed(TEXTS[Due.any(0, TEXTS.length - 1)], 0) : (long) Due.any(0, 1 << 30) * Due.any(0, 1 << 30);
            } else {
                with[i] = small ? Due.any(-1, Due.chance(50) ? 4 : 60) : EDGES[Due.any(0, EDGES.length - 1)];
            }
        }
        return with;
    }

    /** Some 260 calls that change nothing. */
    private static long[] look(BoxcarHouses x) {
        long[] seen = new long[260];
        int n = 0;
        for (int i = 0; i < 12; i++) {
            seen[n++] = x.about(i, 0);
            seen[n++] = x.about(i, 1);
            seen[n++] = x.about(i, 3);
            seen[n++] = x.order(i);
            seen[n++] = x.below(i);
            seen[n++] = x.board(i);
            seen[n++] = x.ofBoard(i, 0);
            seen[n++] = x.ofBoard(i, 1);
            seen[n++] = x.carOf(i);
            seen[n++] = x.why(i * 10, 10);
        }
        for (int i = 0; i < 16; i++) {
            seen[n++] = x.explains(i, true);
            seen[n++] = x.likely(i);
            seen[n++] = x.cause(i);
        }
        for (int i = 0; i < 8; i++) {
            seen[n++] = x.count(i);
            seen[n++] = x.as(i, x.count(6), 0);
            seen[n++] = x.as(i, x.count(6), 1);
            seen[n++] = x.as(i, x.count(6), 2);
            seen[n++] = x.may(i);
            seen[n++] = x.soon(i);
            seen[n++] = x.arrears(i);
        }
        for (int i = 0; i < 4; i++) {
            seen[n++] = x.fault(i);
            seen[n++] = x.force(i * 10);
        }
        seen[n++] = x.apart();
        seen[n++] = x.price();
        seen[n++] = x.packing();
        seen[n++] = x.causes();
        seen[n++] = x.other(5);
        seen[n++] = x.mirror();
        seen[n++] = x.apart();
        return seen;
    }
}
