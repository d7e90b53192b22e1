/** Promises 9 to 17 (undo, hum, hear, appeal, forget, learn, ofHum, ofCase, stand). */
public final class ActsTest {
    private static final int BAD = SleepingJudge.BAD, STATE = SleepingJudge.STATE, FULL = SleepingJudge.FULL;
    private static final String TEXT = "j6,2,3;d0,3;t1,0;c5,2;s4,1;r0,0;f2,3;v0,3,1;v3,5,4;v4,1,2;";
    private static final Check check = new Check();

    public static void main(String[] args) {
        humsChangeTheDream();
        aNightIsFull();
        casesAreHeard();
        dreamsWear();
        guiltyOnesAppeal();
        thingsAreForgotten();
        humsAreLearnt();
        allIsUndone();
        only24AreKept();
        theCourtIsSeen();
        nothingWithoutACourt();
        check.end();
    }

    private static void by(String sort, int thing, int other, String dream, int then) {
        SleepingJudge x = Check.judgeOf("j4,0,1;d" + dream + ";" + sort + thing + "," + other + ";");
        String call = sort + thing + "," + other + " in " + dream;
        check.due("by " + call, x.ofHum(0, 2), then);
        check.due("hum " + call, x.hum(0), then);
    }

    private static void humsChangeTheDream() {
        by("t", 1, 0, "0", 3);
        by("t", 0, 0, "0", 1);
        by("c", 1, 0, "0", 7);
        by("c", 2, 0, "1", 14);
        by("c", 3, 0, "2", 13);
        by("s", 1, 0, "0", 3);
        by("s", 1, 2, "0", 1);
        by("s", 1, 1, "0", 1);
        by("r", 1, 0, "0,3", 8);
        by("r", 1, 2, "0,3", 9);
        by("r", 2, 2, "2", 0);
        by("f", 1, 0, "0,3", 10);
        by("f", 1, 2, "0,3", 9);
        by("f", 0, 0, "0,3", 9);
        by("f", 2, 2, "0,3", 9);
        by("f", 3, 0, "0,3", 8);
    }

    private static void aNightIsFull() {
        SleepingJudge x = Check.judgeOf(TEXT);
        check.due("1", x.hum(0), 11);
        check.due("2", x.hum(1), 43);
        check.due("3", x.hum(2), 59);
        check.due("4", x.hum(3), FULL);
        check.due("no HUM", x.hum(5), BAD);
        check.due("no HUM -1", x.hum(-1), BAD);
        check.due("hummed", x.stand(1), 3);
        check.due("DREAM", x.stand(0), 59);
        x.hear(0);
        check.due("another NIGHT", x.hum(3), 2);
    }

    private static void casesAreHeard() {
        SleepingJudge x = Check.judgeOf(TEXT);
        check.due("OPEN", x.hear(1), 0);
        check.due("NIGHT", x.count(4), 1);
        check.due("DREAM by its PLEA", x.stand(0), 8);
        check.due("not counted", x.stand(1), 0);
        check.due("again", x.hear(1), 0);
        check.due("FREE", x.hear(2), 1);
        check.due("DREAM", x.stand(0), 4);
        check.due("it is not OPEN", x.hear(2), STATE);
        check.due("no CASE", x.hear(3), BAD);
        check.due("no CASE -1", x.hear(-1), BAD);
        check.due("NIGHT 3", x.count(4), 3);
        SleepingJudge y = Check.judgeOf(TEXT);
        check.due("LOSES ahead of WINS", y.hear(0), 2);
        check.due("GUILTY is not OPEN", y.hear(0), STATE);
    }

    private static void dreamsWear() {
        int[] left = {0, 1, 3, 11, 27, 59, 59, 59, 59};
        for (int wears = 0; wears <= 8; wears++) {
            SleepingJudge x = Check.judgeOf("j6," + wears + ",1;d0,1,3,4,5;r2,2;v0,2,0;");
            check.due("VERDICT ahead of wear", x.hear(0), 1);
            check.due("DREAM worn to " + wears, x.stand(0), left[wears]);
        }
    }

    private static void guiltyOnesAppeal() {
        SleepingJudge x = Check.judgeOf(TEXT);
        check.due("OPEN one", x.appeal(0), STATE);
        check.due("no CASE", x.appeal(3), BAD);
        x.hear(0);
        check.due("worn", x.stand(0), 3);
        check.due("OPEN again", x.appeal(0), 1);
        check.due("how it is", x.ofCase(0, 3), 0);
        check.due("NIGHT stays", x.count(4), 1);
        check.due("FREE", x.hear(0), 1);
        check.due("FREE one", x.appeal(0), STATE);
        check.due("GUILTY", x.hear(2), 2);
        check.due("WINS is not there", x.appeal(2), 0);
        check.due("for good", x.ofCase(2, 3), 3);
        check.due("no more", x.appeal(2), STATE);
        check.due("not HEARD any more", x.hear(2), STATE);
        check.due("GUILTY, too", x.stand(4), 4);
        SleepingJudge y = Check.judgeOf("j3,3,1;d0,1;r2,2;v0,0,1;");
        y.hear(0);
        check.due("LOSES is there, too", y.appeal(0), 0);
    }

    private static void thingsAreForgotten() {
        SleepingJudge x = Check.judgeOf(TEXT);
        check.due("forgotten", x.forget(3), 1);
        check.due("not there", x.forget(3), STATE);
        check.due("no THING", x.forget(6), BAD);
        check.due("no THING -1", x.forget(-1), BAD);
        check.due("no THING 32", x.forget(32), BAD);
        check.due("not hummed", x.stand(1), 0);
        check.due("undone", x.undo(), 0);
        check.due("there again", x.stand(0), 9);
    }

    private static void humsAreLearnt() {
        SleepingJudge x = Check.judgeOf(TEXT);
        check.due("what it was", x.learn(0, 5), 1);
        check.due("what it is", x.ofHum(0, 0), 5);
        check.due("by it", x.hum(0), 41);
        check.due("the same once more", x.learn(0, 5), 5);
        check.due("is an ACT, too", x.count(6), 3);
        check.due("no HUM", x.learn(5, 0), BAD);
        check.due("no HUM -1", x.learn(-1, 0), BAD);
        check.due("no THING", x.learn(0, 6), BAD);
        check.due("no THING -1", x.learn(0, -1), BAD);
        x.undo();
        x.undo();
        check.due("undone", x.undo(), 0);
        check.due("as told", x.ofHum(0, 0), 1);
    }

    private static String seen(SleepingJudge x) {
        StringBuilder all = new StringBuilder();
        for (int what = 0; what < 5; what++) {
            all.append(x.stand(what)).append(' ');
        }
        all.append(x.count(4)).append(' ').append(x.ofHum(0, 0));
        for (int number = 0; number < 3; number++) {
            all.append(' ').append(x.ofCase(number, 3));
        }
        return all.toString();
    }

    private static void allIsUndone() {
        SleepingJudge x = Check.judgeOf(TEXT);
        check.due("none", x.undo(), STATE);
        String[] stood = new String[9];
        for (int k = 0; k < 9; k++) {
            stood[k] = seen(x);
            switch (k) {
                case 0: x.hum(1); break;
                case 1: x.hear(0); break;
                case 2: x.appeal(0); break;
                case 3: x.hum(0); break;
                case 4: x.hear(2); break;
                case 5: x.appeal(2); break;
                case 6: x.learn(0, 4); break;
                case 7: x.forget(0); break;
                default: x.hum(0);
            }
            check.due("ACTS", x.count(6), k + 1);
        }
        x.hear(9);
        x.forget(5);
        for (int k = 8; k >= 0; k--) {
            check.due("undo " + k, x.undo(), k);
            check.due("as it stood ahead of " + k, seen(x), stood[k]);
        }
        check.due("none yet", x.undo(), STATE);
    }

    private static void only24AreKept() {
        SleepingJudge x = Check.judgeOf(TEXT);
        for (int k = 0; k < 31; k++) {
            x.learn(0, k % 6);
            check.due("kept", x.count(6), Math.min(k + 1, 24));
        }
        for (int k = 23; k >= 0; k--) {
            check.due("undo", x.undo(), k);
            check.due("THING", x.ofHum(0, 0), (k + 6) % 6);
        }
        check.due("the oldest are forgotten", x.undo(), STATE);
        check.due("one more", x.learn(0, 3), 0);
        check.due("can be undone", x.undo(), 0);
    }

    private static void theCourtIsSeen() {
        SleepingJudge x = Check.judgeOf(TEXT);
        check.due("ofHum what", x.ofHum(0, 3), BAD);
        check.due("ofHum what -1", x.ofHum(0, -1), BAD);
        check.due("ofHum hum", x.ofHum(5, 0), BAD);
        check.due("ofCase what", x.ofCase(0, 5), BAD);
        check.due("ofCase what -1", x.ofCase(0, -1), BAD);
        check.due("ofCase number", x.ofCase(3, 0), BAD);
        check.due("stand what", x.stand(5), BAD);
        check.due("stand what -1", x.stand(-1), BAD);
        check.due("VERDICT now", x.ofCase(2, 4), 1);
        x.hear(2);
        check.due("how it is", x.ofCase(2, 3), 1);
        check.due("VERDICT of a FREE one", x.ofCase(2, 4), 1);
        check.due("DREAM stays", x.stand(0), 5);
        check.due("OPEN", x.stand(2), 3);
        check.due("FREE", x.stand(3), 4);
        check.due("GUILTY", x.stand(4), 0);
    }

    private static void nothingWithoutACourt() {
        SleepingJudge x = new SleepingJudge();
        check.due("hum", x.hum(0), BAD);
        check.due("hear", x.hear(0), BAD);
        check.due("appeal", x.appeal(0), BAD);
        check.due("forget", x.forget(0), BAD);
        check.due("learn", x.learn(0, 0), BAD);
        check.due("ofHum", x.ofHum(0, 0), BAD);
        check.due("ofCase", x.ofCase(0, 0), BAD);
        check.due("stand, STATE ahead of BAD", x.stand(9), STATE);
        check.due("undo", x.undo(), STATE);
    }
}
