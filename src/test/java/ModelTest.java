import java.util.Map;
import java.util.Random;
import java.util.TreeMap;

/** Runs of drawn calls, made to the program and to NaiveJudge alike. */
public final class ModelTest {
    private static final int RUNS = 2500;

    public static void main(String[] args) throws Exception {
        Check check = new Check();
        Map<String, Integer> answered = new TreeMap<>();
        for (int seed = 0; seed < RUNS && !check.isTooWrong(); seed++) {
            oneRun(seed, new DrawnRun(seed, check, answered));
        }
        System.out.println(answered);
        check.end();
    }

    private static void oneRun(int seed, DrawnRun run) throws Exception {
        Random random = new Random(-1 - seed);
        while (run.goesOn()) {
            int turn = random.nextInt(100);
            if (turn < 1 || run.calls() == 0 && random.nextInt(8) > 0) {
                run.tellCourt();
            } else if (turn < 3) {
                run.tellRows();
            } else if (turn < 6) {
                run.tellAsk();
            } else if (turn < 9) {
                run.tellWay();
            } else if (turn < 10) {
                run.tellActs();
            } else {
                run.tellAny();
            }
        }
    }
}
