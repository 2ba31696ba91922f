import java.lang.reflect.InvocationTargetException;
import java.lang.reflect.Method;
import java.lang.reflect.Modifier;
import java.util.Arrays;
import java.util.Comparator;
import java.util.Random;

/** No call may throw or fail to end, for any arguments in any state, beyond 512 calls too. */
public final class HostileTest {
    private static final int[] EDGES = {
        Integer.MIN_VALUE, Integer.MIN_VALUE + 1, -1000000001, -65536, -10, -2, -1, 0, 1, 2, 3, 4, 5, 7, 8, 9, 12, 13,
        20, 21, 30, 31, 32, 33, 36, 37, 60, 63, 64, 65, 99, 100, 101, 255, 256, 999, 1000, 9999, 10000, 65536,
        Integer.MAX_VALUE - 1, Integer.MAX_VALUE
    };
    private static final String[] TOWNS = {
        "", "i0 0;", "i30 0;c0 1 1 1;", "i30 100;c999 1 999 9;g999;m999;",
        "i7 50;c999 1 9 9;c999 500 999 1;c0 1 999 5;c1 999 999 9;g999,999,999,999;m0,0,0,0;g1,2,3,4;m5,6,7,8;"
            + "m9,10,11,12;g13,14,15,16;m999,0,999,0;g0,999,0,999;"
    };

    public static void main(String[] args) throws IllegalAccessException {
        Random random = new Random(512);
        Method[] face = DebtDowry.class.getDeclaredMethods();
        // The machine is free in their order, and the same calls are due in each run.
        Arrays.sort(face, Comparator.comparing(Method::getName));
        for (String town : TOWNS) {
            DebtDowry x = new DebtDowry();
            Due.feedAll(x, town);
            x.town();
            for (int call = 0; call < 40000; call++) {
                Method method = face[random.nextInt(face.length)];
                boolean ends = method.getName().equals("town") && random.nextInt(50) > 0;
                if (Modifier.isPublic(method.getModifiers()) && !ends) {
                    oneCall(random, x, method);
                }
                if (x.told(3) == 0 && !town.isEmpty()) {
                    tellAgain(x, town);
                }
            }
        }
        Due.end();
    }

    private static void tellAgain(DebtDowry x, String town) {
        x.town();
        Due.feedAll(x, town);
        x.town();
    }

    private static void oneCall(Random random, DebtDowry x, Method method) throws IllegalAccessException {
        Object[] values = new Object[method.getParameterCount()];
        StringBuilder call = new StringBuilder(method.getName());
        for (int i = 0; i < values.length; i++) {
            boolean flag = method.getParameterTypes()[i] == boolean.class;
            int number = random.nextInt(3) > 0 ? random.nextInt(10) : EDGES[random.nextInt(EDGES.length)];
            values[i] = flag ? (Object) random.nextBoolean() : (Object) number;
            call.append(' ').append(values[i]);
        }
        try {
            int answer = (Integer) method.invoke(x, values);
            Due.isTrue(call + " answers no other refusal than the four", answer >= DebtDowry.FULL);
        } catch (InvocationTargetException e) {
            Due.isTrue(call + " throws " + e.getCause(), false);
        }
    }
}
