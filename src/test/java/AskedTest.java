/** Promises 35 to 40 (kind, as, ask, trace, count, status). */
public final class AskedTest {
    private static final int NONE = SleepingJudge.NONE, BAD = SleepingJudge.BAD, KIND = -1000013;
    private static final String TEXT = "j6,2,3;d0,3;t1,0;c5,2;s4,1;r0,0;f2,3;v0,3,1;v3,5,4;v4,1,2;";
    private static final Check check = new Check();

    public static void main(String[] args) {
        kindsAreTold();
        humsAreTakenAsKinds();
        sizesAndMarks();
        askedOfWhatStands();
        theTrace();
        counts();
        check.end();
    }

    private static void kindsAreTold() {
        SleepingJudge x = Check.judgeOf(TEXT);
        for (int one = 0; one < 5; one++) {
            check.due("kind", x.kind(one), one + 1);
        }
        check.due("no HUM", x.kind(5), BAD);
        check.due("no HUM -1", x.kind(-1), BAD);
        check.due("no COURT", new SleepingJudge().kind(0), BAD);
    }

    private static void humsAreTakenAsKinds() {
        SleepingJudge x = Check.judgeOf(TEXT);
        String[] is = {"110000", "111000", "110100", "100010", "100011"};
        for (int one = 0; one < 5; one++) {
            for (int kind = 0; kind <= 5; kind++) {
                boolean fine = is[one].charAt(kind) == '1';
                check.due("as(" + one + ", " + kind + ")", x.as(one, kind), fine ? one : KIND);
                check.due("status", x.status(), fine ? 0 : 3);
            }
        }
        x.as(0, 5);
        check.due("kind 6", x.as(0, 6), BAD);
        check.due("kind -1", x.as(0, -1), BAD);
        check.due("no HUM", x.as(5, 0), BAD);
        check.due("BAD leaves the status", x.status(), 3);
    }

    private static void asked(SleepingJudge x, int one, int what, int answer, int... bodies) {
        String call = "ask(" + one + ", " + what + ")";
        check.due(call, x.ask(one, what), answer);
        for (int k = 0; k < bodies.length; k++) {
            check.due("trace(" + k + ") of " + call, x.trace(k), bodies[k]);
        }
        check.due("the end of the trace of " + call, x.trace(bodies.length), NONE);
    }

    private static void sizesAndMarks() {
        SleepingJudge x = Check.judgeOf(TEXT);
        asked(x, 0, 0, 3, 11, 10, 21, 20);
        asked(x, 0, 1, 2, 21, 20);
        asked(x, 1, 0, -11, 12, 11, 10, 24, 21, 20);
        asked(x, 1, 1, 6, 24, 21, 20);
        asked(x, 2, 0, -992, 11, 10, 22, 21, 20);
        asked(x, 2, 1, -996, 22, 21, 20);
        asked(x, 3, 0, -100, 13, 10);
        asked(x, 3, 1, 103, 23, 20, 13, 10);
        asked(x, 4, 0, -196, 14, 13, 10);
        asked(x, 4, 1, 200, 23, 20, 14, 13, 10);
    }

    private static void askedOfWhatStands() {
        SleepingJudge x = Check.judgeOf(TEXT);
        x.learn(0, 5);
        x.forget(0);
        asked(x, 0, 0, 6, 11, 10, 21, 20);
        x.learn(4, 0);
        asked(x, 4, 1, 204, 23, 20, 14, 13, 10);
    }

    private static void theTrace() {
        SleepingJudge x = Check.judgeOf(TEXT);
        check.due("none yet", x.trace(0), NONE);
        x.ask(3, 0);
        check.due("ask of no HUM", x.ask(5, 0), BAD);
        check.due("ask of no HUM -1", x.ask(-1, 0), BAD);
        check.due("what 2", x.ask(0, 2), BAD);
        check.due("what -1", x.ask(0, -1), BAD);
        check.due("BAD leaves it", x.trace(0), 13);
        check.due("i -1", x.trace(-1), NONE);
        check.due("i largest", x.trace(Integer.MAX_VALUE), NONE);
        check.due("i 16", x.trace(16), NONE);
    }

    private static void counts() {
        SleepingJudge x = Check.judgeOf(TEXT);
        x.row(2, 0, 1);
        x.hear(1);
        x.hum(0);
        x.feed('j');
        int[] due = {1, 6, 5, 3, 1, 10, 2, 1};
        for (int what = 0; what < 8; what++) {
            check.due("count(" + what + ")", x.count(what), due[what]);
        }
        check.due("what 8", x.count(8), BAD);
        check.due("what -1", x.count(-1), BAD);
    }
}
