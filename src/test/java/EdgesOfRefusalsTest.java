import java.util.ArrayList;
import java.util.Arrays;
import java.util.List;

/**
 * What is refused, or found, changes nothing but status(): each refusal of each promise once more, on an object that holds
 * all there is to lose (ROWS of each LANE, a begun tape, ACTS, IMAGES, THE TRACE, a FAULT, a FINDING), and without a COURT.
 */
public final class EdgesOfRefusalsTest {
    private static final String[] HELD = {"ints 0: 0 4 3 9", "bytes 1: 11 7 6", "shorts 2: 1 2", "court j = fault 1 at 1",
        "court j6,2,2;d0,3;t1,0;c5,2;s4,1;r0,0;f2,3;v0,3,1;v3,5,4;v4,1,2; = 5", "image(0) = 1", "hear(0) = 2", "learn(4, 5) = 2",
        "image(1) = 1", "forget(1) = 1", "appeal(0) = 0", "hear(2) = 0", "hum(0) = 3", "hum(0) = 3", "ask(1, 0) = -11", "tape j",
        "drop(7) = NULL"};
    private static final String[] HELD_WITHOUT_A_COURT = {"ints 0: 0 4 3 9", "bytes 1: 11 7 6", "court j9 = fault 2 at 1", "tape j",
        "set(0, 4, 1) = PLACE"};
    private static final Edges edges = new Edges();

    public static void main(String[] args) {
        rowsAndTheTape();
        acts();
        seen();
        foretold();
        fitted();
        chancesDrawsAndImages();
        asked();
        withoutACourt();
        edges.end(2, 3, 4, 5, 6, 9, 10, 11, 12, 13, 14, 15, 16, 17, 18, 19, 20, 21, 22, 23, 24, 25, 26, 27, 28, 29, 30, 31, 32, 33, 34,
            35, 36, 37, 39);
    }

    private static void each(int promise, String... refused) {
        for (String line : refused) {
            behind(HELD, promise, line);
        }
    }

    private static void behind(String[] held, int promise, String line) {
        List<String> lines = new ArrayList<>(Arrays.asList(held));
        lines.add(line);
        edges.of(promise, "refused, all stays but status()", lines.toArray(new String[0]));
    }

    private static void rowsAndTheTape() {
        each(2, "row(8, 0, 1) = BAD", "row(0, 3, 1) = BAD", "row(0, -1, 1) = BAD", "row(0, 2, 41) = BAD", "row(0, 2, -1) = SIZE",
            "row(7, 0, -1) = SIZE");
        each(3, "set(8, 0, 1) = BAD", "set(7, 0, 1) = NULL", "set(0, 4, 1) = PLACE", "set(0, -1, 1) = PLACE");
        each(4, "copy(8, 0, 0, 0, 1) = BAD", "copy(0, 0, 8, 0, 1) = BAD", "copy(7, 0, 0, 0, 1) = NULL", "copy(0, 0, 7, 0, 1) = NULL",
            "copy(0, 0, 1, 0, 1) = STORE", "copy(1, 0, 2, 0, 1) = STORE", "copy(0, 1, 0, 0, 4) = PLACE", "copy(0, 0, 0, 1, 4) = PLACE",
            "copy(0, -1, 0, 0, 2) = PLACE", "copy(0, 0, 0, -1, 2) = PLACE", "copy(0, 2, 0, 1, -1) = PLACE");
        each(5, "drop(8) = BAD", "drop(-1) = BAD", "drop(7) = NULL");
        each(6, "feed(256) = BAD", "feed(-1) = BAD");
        List<String> full = new ArrayList<>(Arrays.asList(HELD));
        full.addAll(List.of("tape 4,2,3;d" + "0,".repeat(52) + "01;t0,1;", "count(7) = 120", "feed(59) = FULL"));
        edges.of(6, "refused, all stays but status()", full.toArray(new String[0]));
    }

    private static void acts() {
        each(10, "hum(5) = BAD", "hum(-1) = BAD", "hum(0) = FULL", "hum(4) = FULL");
        each(11, "hear(3) = BAD", "hear(-1) = BAD", "hear(0) = STATE");
        each(12, "appeal(3) = BAD", "appeal(-1) = BAD", "appeal(0) = STATE", "appeal(1) = STATE");
        each(13, "forget(6) = BAD", "forget(-1) = BAD", "forget(5) = STATE");
        each(14, "learn(5, 0) = BAD", "learn(-1, 0) = BAD", "learn(0, 6) = BAD", "learn(0, -1) = BAD");
        List<String> undone = new ArrayList<>(Arrays.asList(HELD));
        for (int k = 6; k >= 0; k--) {
            undone.add("undo() = " + k);
        }
        undone.add("undo() = STATE");
        edges.of(9, "refused, all stays but status()", undone.toArray(new String[0]));
    }

    private static void seen() {
        each(15, "ofHum(5, 0) = BAD", "ofHum(0, 3) = BAD");
        each(16, "ofCase(3, 0) = BAD", "ofCase(0, 5) = BAD");
        each(17, "stand(5) = BAD", "stand(-1) = BAD");
    }

    private static void foretold() {
        each(18, "sleep(8, 0, 1) = BAD", "sleep(0, 0, 13) = BAD", "sleep(7, 0, 1) = NULL", "sleep(0, 3, 2) = PLACE",
            "sleep(0, 0, 4) = KIND");
        each(19, "dreams(9, 0) = BAD", "dreams(0, 5) = BAD");
        each(20, "least(64, 0, -1) = BAD", "least(0, 64, -1) = BAD", "least(0, 0, -2) = BAD");
        each(21, "save(3, -1) = BAD", "save(0, -2) = BAD");
        each(22, "can(3, 0) = BAD", "can(0, 9) = BAD");
        each(23, "order(-3) = BAD");
        each(24, "first() = 1");
        each(25, "clashes(2) = BAD");
        each(26, "deaf() = 17");
        each(27, "same(2) = BAD");
    }

    private static void fitted() {
        each(28, "who(5, 0, 0, 0, 1, 0, 1) = BAD", "who(0, 3, 0, 0, 1, 0, 1) = BAD", "who(0, 0, 8, 0, 1, 0, 1) = BAD",
            "who(0, 0, 0, 0, 8, 0, 1) = BAD", "who(0, 0, 0, 0, 1, 0, 13) = BAD", "who(0, 0, 7, 0, 1, 0, 1) = NULL",
            "who(0, 0, 0, 4, 1, 0, 1) = PLACE", "who(0, 0, 0, 3, 1, 0, 1) = KIND", "who(0, 0, 0, 0, 7, 0, 1) = NULL",
            "who(0, 0, 0, 0, 1, 3, 1) = PLACE");
        each(29, "began(2, 0, 0, 1, 0, 1) = BAD", "began(0, 8, 0, 1, 0, 1) = BAD", "began(0, 0, 0, 8, 0, 1) = BAD",
            "began(0, 0, 0, 1, 0, 13) = BAD", "began(0, 7, 0, 1, 0, 1) = NULL", "began(0, 0, 4, 1, 0, 1) = PLACE",
            "began(0, 0, 3, 1, 0, 1) = KIND", "began(0, 0, 0, 7, 0, 1) = NULL", "began(0, 0, 0, 1, 3, 1) = PLACE");
        each(30, "snored(64, 0, 0, 1) = BAD", "snored(0, 8, 0, 1) = BAD", "snored(0, 0, 0, 13) = BAD", "snored(0, 7, 0, 1) = NULL",
            "snored(0, 0, 4, 1) = PLACE", "snored(0, 0, 3, 1) = KIND");
    }

    private static void chancesDrawsAndImages() {
        each(31, "gone(3, 0, 0) = BAD", "gone(0, 11, 0) = BAD", "gone(0, 0, 2) = BAD");
        each(32, "drawn(61, 1, 0) = BAD", "drawn(0, 0, 0) = BAD", "drawn(0, 1000000, 0) = BAD", "drawn(0, 1, 2) = BAD");
        each(33, "image(2) = BAD", "image(-1) = BAD");
        each(34, "restore(2) = BAD", "restore(-1) = BAD");
        behind(new String[] {"court j3,0,1;d0;t1,0; = 1", "image(1) = 1", "hum(0) = 3", "learn(0, 2) = 1"}, 34, "restore(0) = STATE");
    }

    private static void asked() {
        each(35, "kind(5) = BAD", "kind(-1) = BAD");
        each(36, "as(5, 0) = BAD", "as(0, 6) = BAD", "as(0, 2) = KIND", "as(3, 5) = KIND");
        each(37, "ask(5, 0) = BAD", "ask(0, 2) = BAD", "ask(0, -1) = BAD");
        each(39, "count(8) = BAD", "count(-1) = BAD");
    }

    private static void withoutACourt() {
        String[] states = {"9 undo()", "17 stand(0)", "18 sleep(0, 0, 1)", "19 dreams(0, 0)", "20 least(0, 0, -1)", "23 order(-1)",
            "24 first()", "25 clashes(0)", "26 deaf()", "27 same(0)", "29 began(0, 0, 0, 1, 0, 1)", "30 snored(0, 0, 0, 1)",
            "32 drawn(0, 1, 0)", "33 image(0)", "34 restore(0)"};
        for (String call : states) {
            behind(HELD_WITHOUT_A_COURT, Integer.parseInt(call.substring(0, call.indexOf(' '))),
                call.substring(call.indexOf(' ') + 1) + " = STATE");
        }
        String[] bad = {"10 hum(0)", "11 hear(0)", "12 appeal(0)", "13 forget(0)", "14 learn(0, 0)", "15 ofHum(0, 0)", "16 ofCase(0, 0)",
            "21 save(0, -1)", "22 can(0, 0)", "28 who(0, 0, 0, 0, 1, 0, 1)", "31 gone(0, 0, 0)", "35 kind(0)", "36 as(0, 0)",
            "37 ask(0, 0)"};
        for (String call : bad) {
            behind(HELD_WITHOUT_A_COURT, Integer.parseInt(call.substring(0, call.indexOf(' '))),
                call.substring(call.indexOf(' ') + 1) + " = BAD");
        }
    }
}
