import java.lang.reflect.Method;
import java.lang.reflect.Modifier;
import java.util.HashMap;
import java.util.Map;

/** Counts answers that are not the due ones, and tells them. */
final class Check {
    private int asked = 0;
    private int wrong = 0;

    void due(String call, long got, long want) {
        asked++;
        if (got != want) {
            wrong++;
            System.out.println(call + " answered " + got + ", due is " + want);
        }
    }

    void due(String call, String got, String want) {
        asked++;
        if (!got.equals(want)) {
            wrong++;
            System.out.println(call + " answered " + got + ", due is " + want);
        }
    }

    boolean isTooWrong() {
        return wrong > 20;
    }

    /** Thrown, not left by an exit, so that BrokenPromisesTest can go on behind it; java ends with 1 either way. */
    void end() {
        System.out.println(asked + " answers, " + wrong + " not as due");
        if (wrong != 0) {
            throw new AssertionError(wrong + " answers are not as due");
        }
    }

    static void feedAll(SleepingJudge judge, String text) {
        for (int k = 0; k < text.length(); k++) {
            judge.feed(text.charAt(k));
        }
    }

    static int read(SleepingJudge judge, String text) {
        feedAll(judge, text);
        return judge.court();
    }

    static SleepingJudge judgeOf(String text) {
        SleepingJudge judge = new SleepingJudge();
        read(judge, text);
        return judge;
    }

    /** A ROW of ints with these ITEMS. */
    static void fill(SleepingJudge judge, int row, int... items) {
        judge.row(row, 2, items.length);
        for (int k = 0; k < items.length; k++) {
            judge.set(row, k, items[k]);
        }
    }

    static Map<String, Method> methodsOf(Class<?> type) {
        Map<String, Method> all = new HashMap<>();
        for (Method method : type.getDeclaredMethods()) {
            if (Modifier.isPublic(method.getModifiers())) {
                all.put(method.getName(), method);
            }
        }
        return all;
    }
}
