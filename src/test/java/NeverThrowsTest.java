import java.lang.reflect.InvocationTargetException;
import java.lang.reflect.Method;
import java.lang.reflect.Modifier;

/** Every call, with numbers as far off as there are, on several COURTS and on none: none may throw. */
public final class NeverThrowsTest {
    private static final int[] FAR = {0, 1, -1, 2, 5, 8, 12, 13, 31, 32, 40, 255, Integer.MAX_VALUE, Integer.MAX_VALUE - 1,
        Integer.MIN_VALUE, Integer.MIN_VALUE + 1, 0x40000000, -1000000};
    private static final String[] TEXTS = {"", "j3,0,1;d0;r0,0;", "j8,8,9;d0,1,2,3,4,5,6,7;t0,1;c7,2;s4,5;r6,6;f1,7;f3,3;"
        + "v0,3,1;v5,5,4;v4,1,2;v2,0,7;v1,6,0;", "j6,2,3;d0,3;t1,0;c5,2;s4,1;r0,0;f2,3;v0,3,1;v3,5,4;v4,1,2;"};
    private static final Check check = new Check();

    public static void main(String[] args) throws Exception {
        for (String text : TEXTS) {
            for (Method method : SleepingJudge.class.getDeclaredMethods()) {
                if (Modifier.isPublic(method.getModifiers())) {
                    SleepingJudge x = Check.judgeOf(text);
                    Check.fill(x, 0, 0, 0, 0);
                    Check.fill(x, 1, 5, Integer.MIN_VALUE, 7, 1);
                    far(x, method);
                    drawn(x, method);
                }
            }
        }
        check.end();
    }

    /** All of the numbers for calls with few of them, for others one number after another far off. */
    private static void far(SleepingJudge x, Method method) throws Exception {
        int many = method.getParameterCount();
        Object[] arguments = new Object[many];
        int rounds = 1;
        for (int k = 0; k < Math.min(many, 3); k++) {
            rounds *= FAR.length;
        }
        for (int round = 0; round < rounds; round++) {
            int rest = round;
            for (int k = 0; k < many; k++) {
                arguments[k] = FAR[rest % FAR.length];
                rest = k == 2 ? round / 7 : rest / FAR.length;
            }
            call(x, method, arguments);
        }
    }

    private static void drawn(SleepingJudge x, Method method) throws Exception {
        java.util.Random random = new java.util.Random(method.getName().hashCode());
        Object[] arguments = new Object[method.getParameterCount()];
        for (int round = 0; round < 2000; round++) {
            for (int k = 0; k < arguments.length; k++) {
                arguments[k] = random.nextInt(3) > 0 ? random.nextInt(4) : FAR[random.nextInt(FAR.length)];
            }
            call(x, method, arguments);
        }
    }

    private static void call(SleepingJudge x, Method method, Object[] arguments) throws Exception {
        try {
            method.invoke(x, arguments);
            check.due("", 0, 0);
        } catch (InvocationTargetException thrown) {
            check.due(method.getName() + java.util.Arrays.toString(arguments), thrown.getCause().toString(), "a number");
        }
    }
}
