import java.lang.reflect.Method;
import java.util.ArrayList;
import java.util.List;
import java.util.Map;
import java.util.Random;
import java.util.Set;

/** One run of calls by draws, made to the program and to NaiveJudge alike. */
final class DrawnRun {
    static final int CALLS = 512;
    private static final String[] OFTEN = {"hum", "hear", "hear", "appeal", "forget", "learn", "undo", "save", "least",
        "order", "first", "who", "began", "snored", "gone", "drawn", "image", "restore", "ask", "as", "can", "dreams"};
    private static final String[] ACTS = {"hum", "hear", "appeal", "forget", "learn"};
    private static final Set<String> TELLING = Set.of("row", "set", "copy", "drop", "feed", "court");
    private static final Map<String, Method> PROGRAM = Check.methodsOf(SleepingJudge.class);
    private static final Map<String, Method> MODEL = Check.methodsOf(NaiveJudge.class);
    private static final List<String> NAMES = sorted(PROGRAM.keySet());

    private final Check check;
    private final Map<String, Integer> answered;
    private final Random random;
    private final SleepingJudge judge = new SleepingJudge();
    private final NaiveJudge naive = new NaiveJudge();
    private final StringBuilder run = new StringBuilder();
    private int calls;

    /** How calls were answered is counted in a map that several runs may share. */
    DrawnRun(int seed, Check check, Map<String, Integer> answered) {
        this.random = new Random(seed);
        this.check = check;
        this.answered = answered;
    }

    private static List<String> sorted(java.util.Collection<String> names) {
        List<String> all = new ArrayList<>(names);
        all.sort(null);
        return all;
    }

    boolean goesOn() {
        return calls < CALLS && !check.isTooWrong();
    }

    int calls() {
        return calls;
    }

    long call(String name, int... arguments) throws Exception {
        if (calls >= CALLS) {
            return 0;
        }
        calls++;
        Object[] boxed = new Object[arguments.length];
        StringBuilder told = new StringBuilder(name).append('(');
        for (int k = 0; k < arguments.length; k++) {
            boxed[k] = arguments[k];
            told.append(k == 0 ? "" : ", ").append(arguments[k]);
        }
        told.append(')');
        long got = ((Number) PROGRAM.get(name).invoke(judge, boxed)).longValue();
        long want = ((Number) MODEL.get(name).invoke(naive, boxed)).longValue();
        run.append(' ').append(told);
        check.due(got == want ? "" : run.toString(), got, want);
        answered.merge(name + (want < -1000000 ? " refused" : want == -1000000 ? " none" : " answered"), 1, Integer::sum);
        return want;
    }

    /** Any call there is; a text is seldom read before it is whole. */
    void tellAny() throws Exception {
        String name = random.nextBoolean() ? OFTEN[random.nextInt(OFTEN.length)] : NAMES.get(random.nextInt(NAMES.size()));
        if (!name.equals("court") || random.nextInt(20) == 0) {
            call(name, arguments(name));
        }
    }

    /** Any call but those by which ROWS, the tape and the COURT are told anew. */
    void tellForetold() throws Exception {
        String name = NAMES.get(random.nextInt(NAMES.size()));
        if (!TELLING.contains(name)) {
            call(name, arguments(name));
        }
    }

    /** Edges and beyond, most often what there can be. */
    int[] arguments(String name) {
        int[] all = new int[PROGRAM.get(name).getParameterCount()];
        for (int k = 0; k < all.length; k++) {
            all[k] = random.nextInt(60) == 0 ? strange() : argument(name, k);
        }
        return all;
    }

    private int strange() {
        int[] all = {-1, -2, -3, 2, 5, 6, 8, 9, 12, 13, 40, 41, 256, 999999, 1000000, Integer.MAX_VALUE, Integer.MIN_VALUE};
        return all[random.nextInt(all.length)];
    }

    int within(int low, int high) {
        return low + random.nextInt(high - low + 1);
    }

    /** One of those that there are (HUMS, CASES, THINGS by count's numbers), seldom one more. */
    int oneOf(int what) {
        return within(0, Math.max(naive.count(what) - (random.nextInt(15) == 0 ? 0 : 1), 0));
    }

    private int someThings() {
        return random.nextInt(3) == 0 ? 0 : 1 << oneOf(1) | (random.nextBoolean() ? 1 << oneOf(1) : 0);
    }

    private int argument(String name, int k) {
        switch (name) {
            case "hum": case "kind": return oneOf(2);
            case "hear": case "appeal": return oneOf(3);
            case "ofHum": return k == 0 ? oneOf(2) : within(0, 3);
            case "as": case "ask": return k == 0 ? oneOf(2) : within(0, name.equals("as") ? 6 : 1);
            case "ofCase": return k == 0 ? oneOf(3) : within(0, 5);
            case "image": case "restore": return within(0, 1);
            case "clashes": case "same": return within(0, 2);
            case "row": return k == 0 ? within(0, 3) : k == 1 ? within(0, 2) : within(-1, 12);
            case "set": return k == 0 ? within(0, 3) : k == 1 ? within(-1, 12) : random.nextBoolean() ? within(0, 5) : random.nextInt();
            case "copy": return k == 0 || k == 2 ? within(0, 3) : within(-1, 6);
            case "drop": return within(0, 4);
            case "feed": return within(-1, 256);
            case "learn": return k == 0 ? oneOf(2) : oneOf(1);
            case "forget": return oneOf(1);
            case "least": return k == 2 ? within(-1, 5) : someThings();
            case "save": return k == 0 ? oneOf(3) : within(-1, 4);
            case "can": return k == 0 ? oneOf(3) : within(0, 9);
            case "dreams": return k == 0 ? within(0, 9) : within(0, 5);
            case "order": return within(-3, 5);
            case "sleep": return k == 0 ? within(0, 3) : k == 1 ? within(-1, 4) : within(0, 13);
            case "who": return k == 0 ? oneOf(2) : k == 1 ? within(0, 2) : rowArgument(k - 2);
            case "began": return k == 0 ? within(0, 1) : rowArgument(k - 1);
            case "snored": return k == 0 ? within(0, 127) : k == 1 ? within(0, 3) : k == 2 ? within(-1, 4) : within(0, 13);
            case "gone": return k == 0 ? oneOf(3) : k == 1 ? within(-1, 11) : within(0, 1);
            case "drawn": return k == 0 ? within(-1, 61) : k == 1 ? within(1, 999999) : within(0, 1);
            case "trace": return within(-1, 16);
            default: return within(0, 5);
        }
    }

    private int rowArgument(int k) {
        return k == 0 || k == 2 ? within(0, 3) : k == 4 ? within(1, 6) : within(0, 2);
    }

    void tellCourt() throws Exception {
        tellText(random.nextInt(3) == 0 ? spoiled(validText()) : validText());
    }

    /** 6 HUMS and 5 CASES on a tape of 120 bytes, all that others leave being a DREAM of THINGS told again. */
    void tellFullCourt() throws Exception {
        int things = within(3, 8);
        String law = lawOf(things);
        String rest = humsOf(things, 6) + casesOf(things, 6, 5);
        int left = 120 - law.length() - rest.length();
        int many = (left - 1) / 2;
        int again = within(0, things - 1);
        StringBuilder dream = new StringBuilder("d");
        for (int k = 0; k < many; k++) {
            boolean wide = k == 0 && left % 2 == 0;
            dream.append(k == 0 ? "" : ",").append(wide ? "0" : "").append(k < 3 ? within(0, things - 1) : again);
        }
        tellText(law + dream + ";" + rest);
    }

    private void tellText(String text) throws Exception {
        for (int k = 0; k < text.length(); k++) {
            call("feed", text.charAt(k));
        }
        call("court");
        call("fault");
        for (int what = 0; what < 8; what++) {
            call("count", what);
        }
    }

    private String figure(int value) {
        return random.nextInt(20) == 0 ? "0" + value : "" + value;
    }

    private String validText() {
        int hums = within(1, random.nextInt(12) == 0 ? 7 : 6);
        int cases = within(0, random.nextInt(12) == 0 ? 6 : 5);
        int things = within(3, 8);
        return lawOf(things) + dreamOf(things, within(1, 4)) + humsOf(things, hums) + casesOf(things, Math.min(hums, 6), cases);
    }

    private String lawOf(int things) {
        return "j" + figure(things) + "," + figure(within(0, 8)) + "," + figure(within(1, 9)) + ";";
    }

    private String dreamOf(int things, int many) {
        StringBuilder text = new StringBuilder("d");
        for (int k = 0; k < many; k++) {
            text.append(k == 0 ? "" : ",").append(figure(within(0, things - 1)));
        }
        return text.append(';').toString();
    }

    private String humsOf(int things, int many) {
        StringBuilder text = new StringBuilder();
        for (int k = 0; k < many; k++) {
            text.append("tcsrf".charAt(within(0, 4))).append(figure(within(0, things - 1))).append(',');
            text.append(figure(within(0, things - 1))).append(';');
        }
        return text.toString();
    }

    private String casesOf(int things, int hums, int many) {
        StringBuilder text = new StringBuilder();
        for (int k = 0; k < many; k++) {
            int loses = within(0, things - 1);
            int wins = (loses + within(1, things - 1)) % things;
            text.append('v').append(figure(within(0, hums - 1))).append(',').append(figure(loses));
            text.append(',').append(figure(wins)).append(';');
        }
        return text.toString();
    }

    private String spoiled(String text) {
        StringBuilder other = new StringBuilder(text);
        int at = random.nextInt(text.length());
        String signs = "jdtcsrfv,;0123456789 xA" + (char) 233;
        char sign = signs.charAt(random.nextInt(signs.length()));
        switch (random.nextInt(4)) {
            case 0: other.setCharAt(at, sign); break;
            case 1: other.insert(at, sign); break;
            case 2: other.deleteCharAt(at); break;
            default: other.setLength(at);
        }
        return other.toString();
    }

    /** HUMS, and DREAMS as they come, or nearly so; then what is asked by both. */
    void tellRows() throws Exception {
        int row = within(0, 2);
        int other = row + 1;
        int n = within(1, 12);
        int at = within(0, 2);
        call("row", row, within(0, 2), n + at);
        call("row", other, within(0, 2), n);
        int hums = Math.max((int) call("count", 2), 1);
        for (int k = 0; k < n; k++) {
            call("set", row, at + k, random.nextInt(80) == 0 ? 6 : within(0, hums - 1));
            long dream = call("sleep", row, at, k + 1);
            call("set", other, k, random.nextInt(40) == 0 ? within(0, 255) : (int) dream);
        }
        for (int which = 0; which < 3; which++) {
            call("who", within(0, hums - 1), which, row, at, other, 0, within(1, n));
            call("began", Math.min(which, 1), row, at, other, 0, within(1, n));
        }
        call("snored", (int) call("sleep", row, at, n), row, at, n);
        call("snored", (int) call("sleep", row, at, within(1, n)), row, at, n);
        call("status");
    }

    void tellAsk() throws Exception {
        call("ask", arguments("ask"));
        for (int k = 0; k < 8; k++) {
            call("trace", k);
        }
    }

    void tellWay() throws Exception {
        int there = someThings();
        int not = someThings() & ~there;
        int number = oneOf(3);
        long far = call("least", there, not, -1);
        for (int k = 0; k <= far; k++) {
            call("least", there, not, k);
        }
        far = call("save", number, -1);
        for (int k = 0; k <= far; k++) {
            call("save", number, k);
        }
    }

    /** More ACTS than are kept, and most of them undone. */
    void tellActs() throws Exception {
        tellActs(within(1, 60));
        tellUndone(within(0, 26));
    }

    void tellActs(int many) throws Exception {
        for (int k = 0; k < many; k++) {
            tellAct();
        }
    }

    /** So many that were not refused. */
    void tellActsTaken(int many) throws Exception {
        int taken = 0;
        while (taken < many && goesOn()) {
            taken += tellAct() > SleepingJudge.NONE ? 1 : 0;
        }
    }

    private long tellAct() throws Exception {
        String name = ACTS[random.nextInt(ACTS.length)];
        return call(name, arguments(name));
    }

    void tellUndone(int many) throws Exception {
        for (int k = many; k > 0; k--) {
            call("undo");
            call("stand", within(0, 4));
            call("count", within(4, 6));
            call("ofHum", oneOf(2), within(0, 2));
        }
    }
}
