import java.lang.reflect.Method;
import java.util.ArrayList;
import java.util.List;
import java.util.Map;
import java.util.Set;
import java.util.TreeSet;
import java.util.regex.Matcher;
import java.util.regex.Pattern;

/**
 * Sentences of the document, each with a run of calls on a new object and the answers that are due. A run is told in lines:
 *
 *   hum(0) = 11                  a call; refusals and findings by their names (BAD .. STORE)
 *   court TEXT = 5               a text fed byte by byte, then read: so many HUMS
 *   court TEXT = fault 2 at 13   the same, with a FAULT
 *   tape TEXT                    bytes that are fed alone
 *   ints 0: 1 2 3                a ROW with these ITEMS (bytes and shorts likewise)
 *
 * Beside the answers it is looked at that status() tells what it must behind each call, that the model (NaiveJudge)
 * answers alike, that no run goes beyond 512 calls, and that a call which is refused, or only asks, leaves all as it was.
 */
final class Edges {
    private static final int MOST_CALLS = 512;
    private static final Pattern CALL = Pattern.compile("(\\w+)\\((.*)\\) = (-?\\w+)");
    private static final Pattern TEXT = Pattern.compile("(?s)court (.*) = (\\d+|fault (\\d) at (\\d+))");
    private static final Pattern ITEMS = Pattern.compile("(bytes|shorts|ints) (\\d):((?: -?\\d+)*)");
    private static final List<String> LANES = List.of("bytes", "shorts", "ints");
    private static final Map<String, Long> NAMES = Map.of("NONE", -1000000L, "BAD", -1000001L, "STATE", -1000002L,
        "FULL", -1000003L, "NULL", -1000011L, "PLACE", -1000012L, "KIND", -1000013L, "SIZE", -1000014L, "STORE", -1000015L,
        "MOST", (long) Integer.MAX_VALUE);
    private static final Set<String> WITH_FINDINGS = Set.of("row", "set", "copy", "drop", "sleep", "who", "began", "snored", "as");
    private static final Set<String> ONLY_ASK = Set.of("fault", "ofHum", "ofCase", "stand", "sleep", "dreams", "least", "save",
        "can", "order", "first", "clashes", "deaf", "same", "who", "began", "snored", "gone", "drawn", "kind", "as", "trace",
        "count", "status");
    private static final Map<String, Method> JUDGE = Check.methodsOf(SleepingJudge.class);
    private static final Map<String, Method> MODEL = Check.methodsOf(NaiveJudge.class);

    private record Call(String name, int[] numbers, long due) {
        boolean isRefused() {
            return due <= -1000001 && due >= -1000015;
        }

        boolean isFault() {
            return name.equals("court") && due <= -1000100;
        }

        boolean mustLeaveAll() {
            return isRefused() || isFault() || ONLY_ASK.contains(name);
        }

        long on(Object judge) {
            Object[] boxed = new Object[numbers.length];
            for (int k = 0; k < numbers.length; k++) {
                boxed[k] = numbers[k];
            }
            try {
                return ((Number) (judge instanceof SleepingJudge ? JUDGE : MODEL).get(name).invoke(judge, boxed)).longValue();
            } catch (ReflectiveOperationException thrown) {
                throw new IllegalStateException(name + java.util.Arrays.toString(numbers), thrown);
            }
        }

        String told() {
            StringBuilder text = new StringBuilder(name).append('(');
            for (int k = 0; k < numbers.length; k++) {
                text.append(k == 0 ? "" : ", ").append(numbers[k]);
            }
            return text.append(')').toString();
        }
    }

    /** The one promise of which sentences are looked at (BrokenPromisesTest tells it); 0: all are. */
    private static int alone = 0;

    private final Check check = new Check();
    private final Set<Integer> promised = new TreeSet<>();

    void of(int promise, String sentence, String... lines) {
        promised.add(promise);
        if (alone != 0 && alone != promise) {
            return;
        }
        String name = "promise " + promise + ", " + sentence + ": ";
        List<Call> calls = new ArrayList<>();
        for (String line : lines) {
            read(line, calls);
        }
        answersAreDue(name, calls);
        for (int at = 0; at < calls.size(); at++) {
            if (calls.get(at).mustLeaveAll()) {
                leavesAll(name, calls, at);
            }
        }
    }

    /** Each of these promises must have had a sentence. */
    void end(int... promises) {
        for (int promise : promises) {
            check.due("sentences of promise " + promise, promised.contains(promise) ? 1 : 0, 1);
        }
        check.end();
    }

    // ---- the lines

    private static void read(String line, List<Call> calls) {
        Matcher text = TEXT.matcher(line);
        Matcher items = ITEMS.matcher(line);
        if (text.matches()) {
            readText(text, calls);
        } else if (line.startsWith("tape ")) {
            feedAll(line.substring(5), calls);
        } else if (items.matches()) {
            readItems(items, calls);
        } else {
            readCall(line, calls);
        }
    }

    private static void readText(Matcher text, List<Call> calls) {
        feedAll(text.group(1), calls);
        boolean faulty = text.group(3) != null;
        long due = faulty ? -1000100 - Long.parseLong(text.group(4)) : Long.parseLong(text.group(2));
        calls.add(new Call("court", new int[0], due));
        if (faulty) {
            calls.add(new Call("fault", new int[0], Long.parseLong(text.group(3))));
        }
    }

    /** Behind another tape's bytes a text goes on with their count, up to the last that there is room for. */
    private static void feedAll(String text, List<Call> calls) {
        int there = 0;
        for (Call call : calls) {
            there = call.name.equals("court") ? 0 : call.name.equals("feed") && !call.isRefused() ? there + 1 : there;
        }
        for (int k = 0; k < text.length(); k++) {
            calls.add(new Call("feed", new int[] {text.charAt(k)}, there + k + 1));
        }
    }

    private static void readItems(Matcher items, List<Call> calls) {
        int row = Integer.parseInt(items.group(2));
        String[] values = items.group(3).isEmpty() ? new String[0] : items.group(3).trim().split(" ");
        calls.add(new Call("row", new int[] {row, LANES.indexOf(items.group(1)), values.length}, values.length));
        for (int k = 0; k < values.length; k++) {
            int value = Integer.parseInt(values[k]);
            calls.add(new Call("set", new int[] {row, k, value}, value));
        }
    }

    private static void readCall(String line, List<Call> calls) {
        Matcher call = CALL.matcher(line);
        if (!call.matches() || !JUDGE.containsKey(call.group(1))) {
            throw new IllegalArgumentException("no such line: " + line);
        }
        String[] told = call.group(2).isEmpty() ? new String[0] : call.group(2).split(", *");
        int[] numbers = new int[told.length];
        for (int k = 0; k < told.length; k++) {
            numbers[k] = (int) number(told[k]);
        }
        calls.add(new Call(call.group(1), numbers, number(call.group(3))));
    }

    private static long number(String told) {
        if (told.equals("LEAST")) {
            return Integer.MIN_VALUE;
        }
        return NAMES.containsKey(told) ? NAMES.get(told) : Long.parseLong(told);
    }

    // ---- what is due

    private void answersAreDue(String name, List<Call> calls) {
        SleepingJudge judge = new SleepingJudge();
        NaiveJudge model = new NaiveJudge();
        int made = 0;
        long status = 0;
        for (Call call : calls) {
            check.due(name + call.told(), call.on(judge), call.due);
            check.due(name + "by the model " + call.told(), call.on(model), call.due);
            status = statusBehind(call, status);
            made++;
            if (call.isRefused() || WITH_FINDINGS.contains(call.name)) {
                check.due(name + "status() behind " + call.told(), judge.status(), status);
                made++;
            }
        }
        check.due(name + "calls up to " + MOST_CALLS, made <= MOST_CALLS ? 1 : 0, 1);
    }

    private static long statusBehind(Call call, long ahead) {
        if (call.isRefused() && call.due > -1000010 || !WITH_FINDINGS.contains(call.name)) {
            return ahead;
        }
        return call.isRefused() ? -1000010 - call.due : 0;
    }

    // ---- what stays

    private void leavesAll(String name, List<Call> calls, int at) {
        Call call = calls.get(at);
        for (Look look : Look.values()) {
            String with = look.at(played(calls, at + 1), !call.isFault());
            String without = look.at(call.isFault() ? playedWithoutText(calls, at) : played(calls, at), !call.isFault());
            check.due(name + call.told() + " must leave all; by " + look + " it", with, without);
        }
    }

    private static SleepingJudge played(List<Call> calls, int many) {
        SleepingJudge judge = new SleepingJudge();
        for (int k = 0; k < many; k++) {
            calls.get(k).on(judge);
        }
        return judge;
    }

    /** A text with a FAULT leaves all as if none of its bytes had come. */
    private static SleepingJudge playedWithoutText(List<Call> calls, int many) {
        int begin = many;
        while (begin > 0 && !calls.get(begin - 1).name.equals("court")) {
            begin--;
        }
        SleepingJudge judge = played(calls, begin);
        for (int k = begin; k < many; k++) {
            if (!calls.get(k).name.equals("feed")) {
                calls.get(k).on(judge);
            }
        }
        return judge;
    }

    /** Ways to see all that an object holds, each on an object of its own, as some can be seen but once. */
    private enum Look {
        STANDS, ACTS, TERMS, FIRST_IMAGE, SECOND_IMAGE, ROWS, LENGTHS, TAPE, TAPE_OF_A_COURT;

        String at(SleepingJudge judge, boolean withFault) {
            StringBuilder seen = new StringBuilder();
            switch (this) {
                case STANDS: stands(judge, withFault, seen); break;
                case ACTS: acts(judge, seen); break;
                case TERMS: terms(judge, seen); break;
                case FIRST_IMAGE: image(judge, 0, seen); break;
                case SECOND_IMAGE: image(judge, 1, seen); break;
                case ROWS: items(judge, seen); break;
                case LENGTHS: lengths(judge, seen); break;
                case TAPE: tape(judge, "", seen); break;
                default: tape(judge, "4,2,3;d0;t0,0;", seen);
            }
            return seen.toString();
        }

        private static void add(StringBuilder seen, long answer) {
            seen.append(answer).append(' ');
        }

        private static void stands(SleepingJudge judge, boolean withFault, StringBuilder seen) {
            for (int what = 0; what < 8; what++) {
                add(seen, judge.count(what));
            }
            for (int i = 0; i < 16; i++) {
                add(seen, judge.trace(i));
            }
            add(seen, withFault ? judge.fault() : 0);
            court(judge, seen);
        }

        private static void court(SleepingJudge judge, StringBuilder seen) {
            for (int what = 0; what < 5; what++) {
                add(seen, judge.stand(what));
            }
            for (int hum = 0; hum < 6; hum++) {
                add(seen, judge.kind(hum));
                add(seen, judge.ofHum(hum, 0));
                add(seen, judge.ofHum(hum, 1));
            }
            for (int number = 0; number < 5; number++) {
                for (int what = 0; what < 4; what++) {
                    add(seen, judge.ofCase(number, what));
                }
            }
            add(seen, judge.count(1));
            add(seen, judge.count(4));
        }

        private static void acts(SleepingJudge judge, StringBuilder seen) {
            for (int k = 0; k < 25; k++) {
                add(seen, judge.undo());
                add(seen, judge.count(4));
                for (int what = 0; what < 5; what++) {
                    add(seen, judge.stand(what));
                }
                for (int hum = 0; hum < 6; hum++) {
                    add(seen, judge.ofHum(hum, 0));
                }
            }
        }

        /** By these it is seen how a DREAM wears, and how many can be hummed. */
        private static void terms(SleepingJudge judge, StringBuilder seen) {
            for (int seed = 1; seed < 8; seed++) {
                add(seen, judge.drawn(60, seed, 0));
                add(seen, judge.drawn(9 * seed, seed, 1));
            }
            for (int k = 0; k < 10; k++) {
                add(seen, judge.hum(0));
            }
            for (int number = 0; number < 5; number++) {
                add(seen, judge.hear(number));
                add(seen, judge.stand(0));
                add(seen, judge.appeal(number));
            }
        }

        private static void image(SleepingJudge judge, int k, StringBuilder seen) {
            add(seen, judge.restore(k));
            court(judge, seen);
            terms(judge, seen);
        }

        /** By a HUM that leaves all DREAMS, an ITEM is the least DREAM that it can have been, if it is one. */
        private static void items(SleepingJudge judge, StringBuilder seen) {
            judge.court();
            Check.read(judge, "j8,0,1;d0;s0,0;");
            int spare = spareRow(judge);
            judge.row(spare, 0, 1);
            for (int row = 0; row < 8; row++) {
                boolean more = row != spare;
                for (int i = 0; i < 40 && more; i++) {
                    int item = judge.began(1, spare, 0, row, i, 1);
                    add(seen, item);
                    more = item >= -1000000;
                }
            }
        }

        private static int spareRow(SleepingJudge judge) {
            for (int row = 0; row < 7; row++) {
                if (judge.copy(row, 0, row, 0, 0) != 0) {
                    return row;
                }
            }
            return 7;
        }

        private static void lengths(SleepingJudge judge, StringBuilder seen) {
            for (int row = 0; row < 8; row++) {
                for (int other = 0; other < row; other++) {
                    add(seen, judge.copy(row, 0, other, 0, 0));
                }
                add(seen, judge.set(row, 0, 0x23456789));
                add(seen, judge.set(row, 39, 0));
            }
            for (int row = 0; row < 8; row++) {
                add(seen, judge.drop(row));
            }
        }

        private static void tape(SleepingJudge judge, String more, StringBuilder seen) {
            add(seen, judge.count(7));
            Check.feedAll(judge, more);
            add(seen, judge.court());
            add(seen, judge.fault());
            court(judge, seen);
        }
    }
}
