import java.lang.reflect.Method;
import java.nio.file.Files;
import java.nio.file.Path;
import java.util.Map;
import java.util.regex.Matcher;
import java.util.regex.Pattern;

/** The calls that README.md tells, one behind another on one object, answer what is told behind them. */
public final class ReadmeTest {
    private static final Pattern TEXT = Pattern.compile("String text = \"(.*)\";");
    private static final Pattern CALL = Pattern.compile("judge\\.(\\w+)\\((.*)\\); +// (-?\\w+)(:.*)?");
    private static final Map<String, Integer> NAMES = Map.of("NONE", SleepingJudge.NONE, "BAD", SleepingJudge.BAD,
        "STATE", SleepingJudge.STATE, "NULL", -1000011, "PLACE", -1000012, "KIND", -1000013);

    public static void main(String[] args) throws Exception {
        Check check = new Check();
        Map<String, Method> methods = Check.methodsOf(SleepingJudge.class);
        SleepingJudge judge = new SleepingJudge();
        int calls = 0;
        for (String line : Files.readAllLines(Path.of("README.md"))) {
            Matcher text = TEXT.matcher(line);
            Matcher call = CALL.matcher(line);
            if (text.matches()) {
                Check.feedAll(judge, text.group(1));
            } else if (call.matches()) {
                calls++;
                Object answer = methods.get(call.group(1)).invoke(judge, numbers(call.group(2)));
                check.due(line, ((Number) answer).longValue(), number(call.group(3)));
            } else if (line.startsWith("judge.")) {
                check.due(line, "no answer is told", "an answer");
            }
        }
        check.due("calls told", calls > 20 ? 1 : 0, 1);
        check.end();
    }

    private static Object[] numbers(String told) {
        String[] each = told.isEmpty() ? new String[0] : told.split(", *");
        Object[] all = new Object[each.length];
        for (int k = 0; k < each.length; k++) {
            all[k] = number(each[k]);
        }
        return all;
    }

    private static int number(String told) {
        if (told.startsWith("'")) {
            return told.charAt(1);
        }
        return NAMES.containsKey(told) ? NAMES.get(told) : Integer.parseInt(told);
    }
}
