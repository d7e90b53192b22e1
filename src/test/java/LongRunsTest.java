import java.util.Map;
import java.util.TreeMap;

/**
 * Runs of 512 calls on one object, each with a tape of 120 bytes that is read, a COURT of 6 HUMS and 5 CASES, more than 24
 * ACTS, and IMAGES kept and restored between them: one with answers worked out by hand, others by draws.
 */
public final class LongRunsTest {
    private static final int MOST_CALLS = 512, RUNS = 600, STATE = -1000002, FULL = -1000003, NONE = -1000000;
    private static final int KIND = -1000013;
    private static final String TEXT = "j8,8,9;d00" + ",0".repeat(22)
        + ";t1,0;c2,0;s4,1;r0,0;f5,1;r0,1;v0,2,1;v3,2,0;v5,0,1;v4,2,5;v1,1,2;";

    private final Check check = new Check();
    private final SleepingJudge x = new SleepingJudge();
    private int calls = 0;

    public static void main(String[] args) throws Exception {
        LongRunsTest test = new LongRunsTest();
        test.byHand();
        test.byDraws();
        test.check.end();
    }

    private void due(String call, long got, long want) {
        calls++;
        check.due("call " + calls + ", " + call, got, want);
    }

    // ---- by hand

    private void byHand() {
        theTape();
        threeNightsOfTenActs();
        allThatAreKeptAreUndone();
        hearingsBehindAnImage();
        manyLearntAndUndone();
        imagesOneBehindTheOther();
        foretoldFromTheImage();
        toldByRows();
        chancesAndDraws();
        asked();
        anotherCourtBetween();
        hearingsUpToTheLastCall();
        check.due("calls of the run", calls, MOST_CALLS);
    }

    private void theTape() {
        for (int k = 0; k < TEXT.length(); k++) {
            due("feed", x.feed(TEXT.charAt(k)), k + 1);
        }
        due("feed(59)", x.feed(59), FULL);
        due("count(7)", x.count(7), 120);
        due("court()", x.court(), 6);
        due("count(7)", x.count(7), 0);
        due("count(1)", x.count(1), 8);
        due("count(2)", x.count(2), 6);
        due("count(3)", x.count(3), 5);
        due("count(4)", x.count(4), 0);
        due("count(5)", x.count(5), 1);
        due("count(6)", x.count(6), 0);
        due("image(0)", x.image(0), 1);
    }

    /** Each NIGHT the tune of THING 1 nine times, then CASE 1, by the PLEA of which THING 0 is taken: it stays OPEN. */
    private void threeNightsOfTenActs() {
        for (int night = 0; night < 3; night++) {
            for (int k = 0; k < 9; k++) {
                due("hum(0)", x.hum(0), night == 0 ? 3 : 2);
            }
            due("hum(0)", x.hum(0), FULL);
            due("hear(1)", x.hear(1), 0);
        }
        due("count(6)", x.count(6), 24);
        due("count(4)", x.count(4), 3);
        due("count(5)", x.count(5), 2);
        due("stand(1)", x.stand(1), 0);
        due("image(1)", x.image(1), 1);
    }

    /** Of 30 ACTS the first six cannot be undone: so many were hummed in the first NIGHT. */
    private void allThatAreKeptAreUndone() {
        for (int k = 23; k >= 0; k--) {
            due("undo()", x.undo(), k);
        }
        due("undo()", x.undo(), STATE);
        due("count(4)", x.count(4), 0);
        due("stand(1)", x.stand(1), 6);
        due("stand(0)", x.stand(0), 3);
        due("count(6)", x.count(6), 0);
        for (int k = 0; k < 3; k++) {
            due("hum(0)", x.hum(0), 3);
        }
        due("hum(0)", x.hum(0), FULL);
        due("count(6)", x.count(6), 3);
    }

    private void hearingsBehindAnImage() {
        due("restore(1)", x.restore(1), 1);
        due("count(4)", x.count(4), 3);
        due("count(5)", x.count(5), 2);
        due("count(6)", x.count(6), 0);
        due("stand(1)", x.stand(1), 0);
        due("undo()", x.undo(), STATE);
        due("hear(0)", x.hear(0), 1);
        due("hear(0)", x.hear(0), STATE);
        due("hear(3), by a feather 5 for 1", x.hear(3), 1);
        due("hear(2), nothing for it nor against", x.hear(2), 0);
        due("hear(4), by cheese 2 and 3", x.hear(4), 1);
        due("hear(1), by 2", x.hear(1), 2);
        due("appeal(1)", x.appeal(1), 0);
        due("appeal(1)", x.appeal(1), STATE);
        due("ofCase(1, 3)", x.ofCase(1, 3), 3);
        due("stand(2)", x.stand(2), 4);
        due("stand(3)", x.stand(3), 25);
        due("stand(4)", x.stand(4), 2);
        due("count(4)", x.count(4), 8);
        due("count(6)", x.count(6), 6);
    }

    private void manyLearntAndUndone() {
        due("forget(5)", x.forget(5), 12);
        due("learn(3, 7)", x.learn(3, 7), 0);
        due("count(6)", x.count(6), 8);
        due("image(0), in place of the first", x.image(0), 1);
        for (int k = 0; k < 25; k++) {
            due("learn(3, " + k % 8 + ")", x.learn(3, k % 8), (k + 7) % 8);
        }
        due("count(6)", x.count(6), 24);
        for (int k = 23; k >= 0; k--) {
            due("undo()", x.undo(), k);
            due("ofHum(3, 0)", x.ofHum(3, 0), k % 8);
        }
        due("undo()", x.undo(), STATE);
    }

    private void imagesOneBehindTheOther() {
        due("restore(0)", x.restore(0), 1);
        due("ofHum(3, 0)", x.ofHum(3, 0), 7);
        due("stand(0)", x.stand(0), 12);
        due("count(4)", x.count(4), 8);
        due("stand(3)", x.stand(3), 25);
        due("ofCase(1, 3)", x.ofCase(1, 3), 3);
        due("undo()", x.undo(), STATE);
        due("restore(1)", x.restore(1), 1);
        due("ofHum(3, 0)", x.ofHum(3, 0), 0);
        due("stand(0)", x.stand(0), 2);
        due("stand(2)", x.stand(2), 31);
        due("count(4)", x.count(4), 3);
    }

    private void foretoldFromTheImage() {
        due("deaf()", x.deaf(), 9);
        due("same(0)", x.same(0), 0);
        due("same(1)", x.same(1), NONE);
        due("clashes(0)", x.clashes(0), 5);
        due("clashes(1)", x.clashes(1), 4);
        due("dreams(0, 0)", x.dreams(0, 0), 1);
        due("dreams(0, 3)", x.dreams(0, 3), 2);
        due("dreams(0, 4)", x.dreams(0, 4), 2);
        due("dreams(1, 0)", x.dreams(1, 0), 5);
        due("dreams(1, 1)", x.dreams(1, 1), 0);
        due("dreams(1, 2)", x.dreams(1, 2), 62);
        due("dreams(1, 3)", x.dreams(1, 3), 0);
        due("dreams(1, 4)", x.dreams(1, 4), 32);
        due("least(2, 0, -1)", x.least(2, 0, -1), 0);
        due("least(32, 2, -1)", x.least(32, 2, -1), 1);
        due("least(32, 2, 0)", x.least(32, 2, 0), 4);
        due("least(34, 0, -1)", x.least(34, 0, -1), 2);
        due("least(34, 0, 0)", x.least(34, 0, 0), 4);
        due("least(34, 0, 1)", x.least(34, 0, 1), 0);
        due("least(34, 0, 2)", x.least(34, 0, 2), NONE);
        due("least(128, 0, -1)", x.least(128, 0, -1), NONE);
        due("least(1, 0, -1)", x.least(1, 0, -1), NONE);
        due("save(0, -1)", x.save(0, -1), 0);
        due("save(4, -1)", x.save(4, -1), 1);
        due("save(4, 0)", x.save(4, 0), 4);
        due("save(1, -1)", x.save(1, -1), NONE);
        due("save(3, -1)", x.save(3, -1), 0);
        due("save(3, 0)", x.save(3, 0), NONE);
        verdictsAndOrders();
    }

    /** Most are FREE by CASE 0, then 3 (it takes what loses 4), then 4; 1 loses behind 4, and 2 takes what 3 needs. */
    private void verdictsAndOrders() {
        due("can(0, 0)", x.can(0, 0), 2);
        due("can(0, 1)", x.can(0, 1), 6);
        due("can(4, 0)", x.can(4, 0), 4);
        due("can(4, 1)", x.can(4, 1), 6);
        due("can(1, 0)", x.can(1, 0), 1);
        due("can(1, 1)", x.can(1, 1), 5);
        due("can(1, 8)", x.can(1, 8), 5);
        due("can(2, 8)", x.can(2, 8), 1);
        due("order(-1)", x.order(-1), 3);
        due("order(-2)", x.order(-2), 0);
        due("order(0)", x.order(0), 0);
        due("order(1)", x.order(1), 1);
        due("order(2)", x.order(2), 3);
        due("order(3)", x.order(3), 2);
        due("order(4)", x.order(4), 4);
        due("order(5)", x.order(5), NONE);
        due("first()", x.first(), 0);
    }

    private void toldByRows() {
        row(0, 0, 4, 0, 1);
        row(1, 2, 32, 34, 46);
        due("sleep(0, 0, 1)", x.sleep(0, 0, 1), 32);
        due("sleep(0, 0, 3)", x.sleep(0, 0, 3), 46);
        due("sleep(0, 1, 2)", x.sleep(0, 1, 2), 14);
        due("who(0, 0, ..)", x.who(0, 0, 0, 0, 1, 0, 3), 2);
        due("who(0, 1, ..)", x.who(0, 1, 0, 0, 1, 0, 3), 2);
        due("who(0, 2, ..)", x.who(0, 2, 0, 0, 1, 0, 3), 255);
        due("who(4, 0, ..)", x.who(4, 0, 0, 0, 1, 0, 3), 32);
        due("who(4, 1, ..)", x.who(4, 1, 0, 0, 1, 0, 3), 32);
        due("who(4, 2, ..)", x.who(4, 2, 0, 0, 1, 0, 3), 2);
        due("who(1, 1, ..)", x.who(1, 1, 0, 0, 1, 0, 3), 4);
        due("began(0, ..)", x.began(0, 0, 0, 1, 0, 3), 3);
        due("began(1, ..)", x.began(1, 0, 0, 1, 0, 3), 2);
        due("snored(46, ..)", x.snored(46, 0, 0, 3), 4096);
        due("snored(44, ..)", x.snored(44, 0, 0, 3), 2);
        due("snored(14, ..)", x.snored(14, 0, 0, 3), 1);
        due("snored(34, ..)", x.snored(34, 0, 0, 3), 4);
        due("snored(0, ..)", x.snored(0, 0, 0, 3), 0);
    }

    private void row(int row, int lane, int... items) {
        due("row(" + row + ", ..)", x.row(row, lane, items.length), items.length);
        for (int k = 0; k < items.length; k++) {
            due("set(" + row + ", " + k + ", ..)", x.set(row, k, items[k]), items[k]);
        }
    }

    /** X is 16807, 282475249, 1622650073, 984943658, 1144108930, 470211272 (CASE 2), 101027544 (CASE 4). */
    private void chancesAndDraws() {
        due("gone(0, 5, 0)", x.gone(0, 5, 0), 1);
        due("gone(0, 5, 1)", x.gone(0, 5, 1), 1);
        due("gone(3, 3, 0)", x.gone(3, 3, 0), 7);
        due("gone(3, 3, 1)", x.gone(3, 3, 1), 10);
        due("gone(4, 3, 0)", x.gone(4, 3, 0), 3);
        due("gone(4, 3, 1)", x.gone(4, 3, 1), 10);
        due("gone(4, 0, 0)", x.gone(4, 0, 0), 0);
        due("gone(4, 0, 1)", x.gone(4, 0, 1), 1);
        due("drawn(0, 1, 0)", x.drawn(0, 1, 0), 0);
        int[] dreams = {2, 14, 14, 12, 12, 12, 12, 12};
        for (int n = 0; n < dreams.length; n++) {
            due("drawn(" + n + ", 1, 1)", x.drawn(n, 1, 1), dreams[n]);
        }
        due("drawn(7, 1, 0)", x.drawn(7, 1, 0), 1);
    }

    private void asked() {
        int[] kinds = {1, 2, 3, 4, 5, 4};
        for (int hum = 0; hum < kinds.length; hum++) {
            due("kind(" + hum + ")", x.kind(hum), kinds[hum]);
        }
        due("as(1, 1)", x.as(1, 1), 1);
        due("as(1, 3)", x.as(1, 3), KIND);
        due("status()", x.status(), 3);
        due("as(4, 4)", x.as(4, 4), 4);
        due("status()", x.status(), 0);
        due("ask(1, 0)", x.ask(1, 0), -6);
        trace(12, 11, 10, 24, 21, 20, NONE);
        due("ask(4, 1)", x.ask(4, 1), 194);
        trace(23, 20, 14, 13, 10, NONE);
    }

    private void trace(int... bodies) {
        for (int i = 0; i < bodies.length; i++) {
            due("trace(" + i + ")", x.trace(i), bodies[i]);
        }
    }

    private void anotherCourtBetween() {
        String text = "j3,0,1;d0;t1,0;";
        for (int k = 0; k < text.length(); k++) {
            due("feed", x.feed(text.charAt(k)), k + 1);
        }
        due("court()", x.court(), 1);
        due("count(6)", x.count(6), 0);
        due("count(3)", x.count(3), 0);
        due("restore(0)", x.restore(0), 1);
        due("count(2)", x.count(2), 6);
        due("stand(0)", x.stand(0), 12);
        due("ofHum(3, 0)", x.ofHum(3, 0), 7);
        due("count(0)", x.count(0), 2);
        due("trace(0)", x.trace(0), 23);
        due("fault()", x.fault(), 0);
        due("feed('j')", x.feed('j'), 1);
        due("feed('9')", x.feed('9'), 2);
        due("court()", x.court(), -1000101);
        due("fault()", x.fault(), 2);
        due("stand(0)", x.stand(0), 12);
    }

    /** The IMAGE was kept in NIGHT 8; CASE 2 stays OPEN however often it is HEARD. */
    private void hearingsUpToTheLastCall() {
        for (int k = 0; k < 26; k++) {
            due("hear(2)", x.hear(2), 0);
        }
        due("count(4)", x.count(4), 34);
        due("count(6)", x.count(6), 24);
        for (int k = 23; k >= 0; k--) {
            due("undo()", x.undo(), k);
        }
        due("undo()", x.undo(), STATE);
        due("count(4)", x.count(4), 10);
    }

    // ---- by draws

    private void byDraws() throws Exception {
        Map<String, Integer> answered = new TreeMap<>();
        for (int seed = 0; seed < RUNS && !check.isTooWrong(); seed++) {
            DrawnRun run = new DrawnRun(seed, check, answered);
            oneRun(run);
            check.due("calls of run " + seed, run.calls(), MOST_CALLS);
        }
        check.due("texts with a FAULT", answered.getOrDefault("court refused", 0), 0);
        System.out.println(answered);
    }

    private void oneRun(DrawnRun run) throws Exception {
        run.tellFullCourt();
        run.call("image", 0);
        run.tellActsTaken(run.within(25, 36));
        run.call("image", 1);
        run.tellUndone(run.within(0, 26));
        run.tellRows();
        run.call("restore", run.within(0, 1));
        run.tellWay();
        run.tellActs(run.within(5, 40));
        run.call("restore", run.within(0, 1));
        while (run.goesOn()) {
            run.tellForetold();
        }
    }
}
