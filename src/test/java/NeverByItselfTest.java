import java.lang.reflect.InvocationTargetException;
import java.lang.reflect.Method;
import java.util.Arrays;
import java.util.Comparator;
import java.util.Random;

/** LANGUAGE.md, 6 and 7: any arguments in any state: a call throws what its face tells, and nothing else. */
public final class NeverByItselfTest {
    private static final int[] INTS = {Integer.MIN_VALUE, Integer.MIN_VALUE + 1, -1001, -61, -10, -2, -1, 0, 0, 0, 1, 1, 2,
        3, 4, 5, 6, 7, 8, 9, 10, 11, 12, 19, 20, 21, 29, 30, 31, 58, 59, 60, 61, 62, 69, 70, 71, 98, 99, 100, 799, 800,
        899, 900, 901, 998, 999, 1000, 1001, 2000, 65535, 65536, Integer.MAX_VALUE - 1, Integer.MAX_VALUE};
    private static final long[] LONGS = {Long.MIN_VALUE, -2, -1, 0, 1, 11, 22, 122, 758, 799, 800, 999, 1000, 1001, 1007,
        1008, 1999, 2000, 2001, 1L << 32, (1L << 32) - 1, (1L << 32) + 1000, Long.MAX_VALUE};
    private static final int CALLS = 500;

    public static void main(String[] args) throws Exception {
        Method[] face = LateFalls.class.getDeclaredMethods();
        face = Arrays.stream(face).filter(m -> java.lang.reflect.Modifier.isPublic(m.getModifiers()))
                .sorted(Comparator.comparing(Method::getName)).toArray(Method[]::new);
        Check.due("methods of the face", face.length, 47);
        Random random = new Random(48);
        for (int run = 0; run < 400; run++) {
            LateFalls x = begin(run);
            for (int call = 0; call < CALLS; call++) {
                callOne(x, face[random.nextInt(face.length)], random);
            }
        }
        Check.end();
    }

    /** No text, the least, the fullest, and ordinary ones. */
    private static LateFalls begin(int run) {
        switch (run % 5) {
            case 0:
                return new LateFalls();
            case 1:
                return Check.of("fall 1 1;thing 1 held 0;walker 0;");
            case 2:
                return Check.of("fall 6 9;thing 99 held 99;thing 98 held 0;thing 97 up 5 8 for 99;thing 96 up 5 7 for 1;"
                        + "thing 95 on 5;thing 94 on 5;thing 93 up 0 0 for 2;thing 92 held 1;walker 0 1 2 3 4 5 4 3;"
                        + "walker 5;walker 0;walker 1 0;hour 999;");
            case 3:
                return Check.of("fall 3 4;thing 9 held 3;thing 8 held 0;thing 7 up 0 3 for 5;thing 6 up 1 2 for 9;thing 5 on 1;"
                        + "walker 0 1;walker 2 0 1;hangs:held*held-level;frees:wa>wb or la=lb+1;hour 20;");
            default:
                return Check.of("fall 2 2;walker 1 0;hangs:0-999*999*999;frees:not not 1=2;");
        }
    }

    private static void callOne(LateFalls x, Method method, Random random) throws Exception {
        Class<?>[] types = method.getParameterTypes();
        Object[] given = new Object[types.length];
        for (int i = 0; i < types.length; i++) {
            if (types[i] == int.class) {
                given[i] = random.nextInt(3) == 0 ? INTS[random.nextInt(INTS.length)] : random.nextInt(4);
            } else if (types[i] == long.class) {
                given[i] = LONGS[random.nextInt(LONGS.length)];
            } else {
                given[i] = random.nextBoolean();
            }
        }
        String told = "0";
        try {
            method.invoke(x, given);
        } catch (InvocationTargetException e) {
            Class<?> thrown = e.getCause().getClass();
            told = Arrays.asList(method.getExceptionTypes()).contains(thrown) ? "0" : thrown.getSimpleName();
        }
        Check.due(method.getName() + Arrays.toString(given) + " throws what isn't told: " + told, told.equals("0") ? 1 : 0, 1);
    }
}
