import java.lang.reflect.Method;
import java.util.ArrayList;
import java.util.HashMap;
import java.util.List;
import java.util.Map;
import java.util.Random;

/** Runs of drawn calls, made to the program and to NaiveJudge alike. */
public final class ModelTest {
    private static final int RUNS = 2500, CALLS = 512;
    private static final String[] OFTEN = {"hum", "hear", "hear", "appeal", "forget", "learn", "undo", "save", "least",
        "order", "first", "who", "began", "snored", "gone", "drawn", "image", "restore", "ask", "as", "can", "dreams"};

    private final Map<String, Method> program = Check.methodsOf(SleepingJudge.class);
    private final Map<String, Method> model = Check.methodsOf(NaiveJudge.class);
    private final List<String> names = new ArrayList<>(program.keySet());
    private final Check check = new Check();
    private final Map<String, Integer> answered = new HashMap<>();
    private Random random;
    private SleepingJudge judge;
    private NaiveJudge naive;
    private int calls;
    private StringBuilder run;

    public static void main(String[] args) throws Exception {
        ModelTest test = new ModelTest();
        test.names.sort(null);
        for (int seed = 0; seed < RUNS && !test.check.isTooWrong(); seed++) {
            test.oneRun(seed);
        }
        test.tellCalls();
        test.check.end();
    }

    private void oneRun(int seed) throws Exception {
        random = new Random(seed);
        judge = new SleepingJudge();
        naive = new NaiveJudge();
        calls = 0;
        run = new StringBuilder();
        while (calls < CALLS && !check.isTooWrong()) {
            int turn = random.nextInt(100);
            if (turn < 1 || calls == 0 && random.nextInt(8) > 0) {
                tellCourt();
            } else if (turn < 3) {
                tellRows();
            } else if (turn < 6) {
                tellAsk();
            } else if (turn < 9) {
                tellWay();
            } else if (turn < 10) {
                tellActs();
            } else {
                String name = random.nextBoolean() ? OFTEN[random.nextInt(OFTEN.length)] : names.get(random.nextInt(names.size()));
                if (!name.equals("court") || random.nextInt(20) == 0) {
                    call(name, arguments(name));
                }
            }
        }
    }

    private long call(String name, int... arguments) throws Exception {
        if (calls >= CALLS) {
            return 0;
        }
        calls++;
        Object[] boxed = new Object[arguments.length];
        StringBuilder told = new StringBuilder(name).append('(');
        for (int k = 0; k < arguments.length; k++) {
            boxed[k] = arguments[k];
            told.append(k == 0 ? "" : ", ").append(arguments[k]);
        }
        told.append(')');
        long got = ((Number) program.get(name).invoke(judge, boxed)).longValue();
        long want = ((Number) model.get(name).invoke(naive, boxed)).longValue();
        run.append(' ').append(told);
        check.due(got == want ? "" : run.toString(), got, want);
        answered.merge(name + (want < -1000000 ? " refused" : want == -1000000 ? " none" : " answered"), 1, Integer::sum);
        return want;
    }

    /** Edges and beyond, most often what there can be. */
    private int[] arguments(String name) {
        int[] all = new int[program.get(name).getParameterCount()];
        for (int k = 0; k < all.length; k++) {
            all[k] = random.nextInt(60) == 0 ? strange() : argument(name, k);
        }
        return all;
    }

    private int strange() {
        int[] all = {-1, -2, -3, 2, 5, 6, 8, 9, 12, 13, 40, 41, 256, 999999, 1000000, Integer.MAX_VALUE, Integer.MIN_VALUE};
        return all[random.nextInt(all.length)];
    }

    private int within(int low, int high) {
        return low + random.nextInt(high - low + 1);
    }

    /** One of those that there are (HUMS, CASES, THINGS by count's numbers), seldom one more. */
    private int oneOf(int what) {
        return within(0, Math.max(naive.count(what) - (random.nextInt(15) == 0 ? 0 : 1), 0));
    }

    private int someThings() {
        return random.nextInt(3) == 0 ? 0 : 1 << oneOf(1) | (random.nextBoolean() ? 1 << oneOf(1) : 0);
    }

    private int argument(String name, int k) {
        switch (name) {
            case "hum": case "kind": return oneOf(2);
            case "hear": case "appeal": return oneOf(3);
            case "ofHum": return k == 0 ? oneOf(2) : within(0, 3);
            case "as": case "ask": return k == 0 ? oneOf(2) : within(0, name.equals("as") ? 6 : 1);
            case "ofCase": return k == 0 ? oneOf(3) : within(0, 5);
            case "image": case "restore": return within(0, 1);
            case "clashes": case "same": return within(0, 2);
            case "row": return k == 0 ? within(0, 3) : k == 1 ? within(0, 2) : within(-1, 12);
            case "set": return k == 0 ? within(0, 3) : k == 1 ? within(-1, 12) : random.nextBoolean() ? within(0, 5) : random.nextInt();
            case "copy": return k == 0 || k == 2 ? within(0, 3) : within(-1, 6);
            case "drop": return within(0, 4);
            case "feed": return within(-1, 256);
            case "learn": return k == 0 ? oneOf(2) : oneOf(1);
            case "forget": return oneOf(1);
            case "least": return k == 2 ? within(-1, 5) : someThings();
            case "save": return k == 0 ? oneOf(3) : within(-1, 4);
            case "can": return k == 0 ? oneOf(3) : within(0, 9);
            case "dreams": return k == 0 ? within(0, 9) : within(0, 5);
            case "order": return within(-3, 5);
            case "sleep": return k == 0 ? within(0, 3) : k == 1 ? within(-1, 4) : within(0, 13);
            case "who": return k == 0 ? oneOf(2) : k == 1 ? within(0, 2) : rowArgument(k - 2);
            case "began": return k == 0 ? within(0, 1) : rowArgument(k - 1);
            case "snored": return k == 0 ? within(0, 127) : k == 1 ? within(0, 3) : k == 2 ? within(-1, 4) : within(0, 13);
            case "gone": return k == 0 ? oneOf(3) : k == 1 ? within(-1, 11) : within(0, 1);
            case "drawn": return k == 0 ? within(-1, 61) : k == 1 ? within(1, 999999) : within(0, 1);
            case "trace": return within(-1, 16);
            default: return within(0, 5);
        }
    }

    private int rowArgument(int k) {
        return k == 0 || k == 2 ? within(0, 3) : k == 4 ? within(1, 6) : within(0, 2);
    }

    private void tellCourt() throws Exception {
        String text = random.nextInt(3) == 0 ? spoiled(validText()) : validText();
        for (int k = 0; k < text.length(); k++) {
            call("feed", text.charAt(k));
        }
        call("court");
        call("fault");
        for (int what = 0; what < 8; what++) {
            call("count", what);
        }
    }

    private String figure(int value) {
        return random.nextInt(20) == 0 ? "0" + value : "" + value;
    }

    private String validText() {
        int things = within(3, 8);
        StringBuilder text = new StringBuilder("j").append(figure(things)).append(',').append(figure(within(0, 8)));
        text.append(',').append(figure(within(1, 9))).append(";d");
        int dreamt = within(1, 4);
        for (int k = 0; k < dreamt; k++) {
            text.append(k == 0 ? "" : ",").append(figure(within(0, things - 1)));
        }
        text.append(';');
        int hums = within(1, random.nextInt(12) == 0 ? 7 : 6);
        for (int k = 0; k < hums; k++) {
            text.append("tcsrf".charAt(within(0, 4))).append(figure(within(0, things - 1))).append(',');
            text.append(figure(within(0, things - 1))).append(';');
        }
        int cases = within(0, random.nextInt(12) == 0 ? 6 : 5);
        for (int k = 0; k < cases; k++) {
            int loses = within(0, things - 1);
            int wins = random.nextInt(30) == 0 ? loses : (loses + within(1, things - 1)) % things;
            text.append('v').append(figure(within(0, Math.min(hums, 6) - 1))).append(',').append(figure(loses));
            text.append(',').append(figure(wins)).append(';');
        }
        return text.toString();
    }

    private String spoiled(String text) {
        StringBuilder other = new StringBuilder(text);
        int at = random.nextInt(text.length());
        String signs = "jdtcsrfv,;0123456789 xA" + (char) 233;
        char sign = signs.charAt(random.nextInt(signs.length()));
        switch (random.nextInt(4)) {
            case 0: other.setCharAt(at, sign); break;
            case 1: other.insert(at, sign); break;
            case 2: other.deleteCharAt(at); break;
            default: other.setLength(at);
        }
        return other.toString();
    }

    /** HUMS, and DREAMS as they come, or nearly so; then what is asked by both. */
    private void tellRows() throws Exception {
        int row = within(0, 2);
        int other = row + 1;
        int n = within(1, 12);
        int at = within(0, 2);
        call("row", row, within(0, 2), n + at);
        call("row", other, within(0, 2), n);
        int hums = Math.max((int) call("count", 2), 1);
        for (int k = 0; k < n; k++) {
            call("set", row, at + k, random.nextInt(80) == 0 ? 6 : within(0, hums - 1));
            long dream = call("sleep", row, at, k + 1);
            call("set", other, k, random.nextInt(40) == 0 ? within(0, 255) : (int) dream);
        }
        for (int which = 0; which < 3; which++) {
            call("who", within(0, hums - 1), which, row, at, other, 0, within(1, n));
            call("began", Math.min(which, 1), row, at, other, 0, within(1, n));
        }
        call("snored", (int) call("sleep", row, at, n), row, at, n);
        call("snored", (int) call("sleep", row, at, within(1, n)), row, at, n);
        call("status");
    }

    private void tellAsk() throws Exception {
        call("ask", arguments("ask"));
        for (int k = 0; k < 8; k++) {
            call("trace", k);
        }
    }

    private void tellWay() throws Exception {
        int there = someThings();
        int not = someThings() & ~there;
        int number = oneOf(3);
        long far = call("least", there, not, -1);
        for (int k = 0; k <= far; k++) {
            call("least", there, not, k);
        }
        far = call("save", number, -1);
        for (int k = 0; k <= far; k++) {
            call("save", number, k);
        }
    }

    /** More ACTS than are kept, and most of them undone. */
    private void tellActs() throws Exception {
        String[] acts = {"hum", "hear", "appeal", "forget", "learn"};
        int many = within(1, 60);
        for (int k = 0; k < many; k++) {
            String name = acts[random.nextInt(acts.length)];
            call(name, arguments(name));
        }
        for (int k = within(0, 26); k > 0; k--) {
            call("undo");
            call("stand", within(0, 4));
            call("count", within(4, 6));
            call("ofHum", oneOf(2), within(0, 2));
        }
    }

    private void tellCalls() {
        List<String> all = new ArrayList<>(answered.keySet());
        all.sort(null);
        StringBuilder told = new StringBuilder();
        for (String one : all) {
            told.append(one).append(' ').append(answered.get(one)).append("; ");
        }
        System.out.println(told);
    }
}
