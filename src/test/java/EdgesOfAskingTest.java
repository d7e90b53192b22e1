/** The boundary cases of what is asked: promises 35 to 40, with part 4 of the Terms. */
public final class EdgesOfAskingTest {
    private static final String COURT = "court j6,2,3;d0,3;t1,0;c5,2;s4,1;r0,0;f2,3;v0,3,1;v3,5,4;v4,1,2; = 5";
    private static final String SMALL = "court j3,0,1;d0;t1,0; = 1";
    /** Each KIND once, and a second feather with the last number; all 8 THINGS are dreamt. */
    private static final String ALL = "court j8,8,9;d0,1,2,3,4,5,6,7;t7,7;c7,0;s1,0;r3,3;f5,5;f7,0; = 6";
    private static final Edges edges = new Edges();

    public static void main(String[] args) {
        kindsOfHums();
        humsAsKinds();
        humsAsNoSuchKind();
        asksOfNumbers();
        sizesByBodies();
        marksByBodies();
        asksOfWhatIsDreamt();
        theTrace();
        theTraceStays();
        counts();
        countsWithoutACourt();
        statusOfCallsWithRows();
        statusOfAs();
        statusOfOtherCalls();
        edges.end(35, 36, 37, 38, 39, 40);
    }

    private static void kindsOfHums() {
        edges.of(35, "1 to 5, as told", COURT, "kind(0) = 1", "kind(1) = 2", "kind(2) = 3", "kind(3) = 4", "kind(4) = 5");
        edges.of(35, "HUMS are those told", COURT, "kind(5) = BAD", "kind(-1) = BAD", "kind(MOST) = BAD", "kind(LEAST) = BAD", ALL,
            "kind(5) = 5", "kind(6) = BAD", SMALL, "kind(0) = 1", "kind(1) = BAD");
        edges.of(35, "no COURT", "kind(0) = BAD", "kind(-1) = BAD");
        edges.of(35, "what is learnt leaves the KIND", COURT, "learn(4, 3) = 2", "kind(4) = 5");
    }

    private static void humsAsKinds() {
        edges.of(36, "each is a HUM: its number", ALL, "as(0, 0) = 0", "as(1, 0) = 1", "as(2, 0) = 2", "as(3, 0) = 3", "as(4, 0) = 4",
            "as(5, 0) = 5");
        edges.of(36, "a tune is a TUNE", COURT, "as(0, 1) = 0", "as(0, 2) = KIND", "as(0, 3) = KIND", "as(0, 4) = KIND", "as(0, 5) = KIND");
        edges.of(36, "cheese is CHEESE, and a TUNE", COURT, "as(1, 1) = 1", "as(1, 2) = 1", "as(1, 3) = KIND", "as(1, 4) = KIND",
            "as(1, 5) = KIND");
        edges.of(36, "steps are STEPS, and a TUNE", COURT, "as(2, 1) = 2", "as(2, 2) = KIND", "as(2, 3) = 2", "as(2, 4) = KIND",
            "as(2, 5) = KIND");
        edges.of(36, "rain is RAIN", COURT, "as(3, 1) = KIND", "as(3, 2) = KIND", "as(3, 3) = KIND", "as(3, 4) = 3", "as(3, 5) = KIND");
        edges.of(36, "a feather is a FEATHER, and a RAIN", COURT, "as(4, 1) = KIND", "as(4, 2) = KIND", "as(4, 3) = KIND", "as(4, 4) = 4",
            "as(4, 5) = 4");
    }

    private static void humsAsNoSuchKind() {
        edges.of(36, "KINDS are 0 .. 5", COURT, "as(4, 0) = 4", "as(4, 5) = 4", "as(4, 6) = BAD", "as(4, -1) = BAD", "as(4, MOST) = BAD",
            "as(4, LEAST) = BAD");
        edges.of(36, "HUMS are those told, BAD comes ahead of KIND", COURT, "as(5, 0) = BAD", "as(-1, 0) = BAD", "as(MOST, 0) = BAD",
            "as(LEAST, 0) = BAD", "as(5, 5) = BAD", "as(0, 6) = BAD");
        edges.of(36, "no COURT", "as(0, 0) = BAD", "as(0, 5) = BAD", "status() = 0");
    }

    private static void asksOfNumbers() {
        edges.of(37, "ASKS are 0 and 1", COURT, "ask(0, 0) = 3", "ask(0, 1) = 2", "ask(0, 2) = BAD", "ask(0, -1) = BAD",
            "ask(0, MOST) = BAD",
            "ask(0, LEAST) = BAD");
        edges.of(37, "HUMS are those told", COURT, "ask(4, 0) = -196", "ask(5, 0) = BAD", "ask(-1, 0) = BAD", "ask(MOST, 1) = BAD",
            "ask(LEAST, 1) = BAD");
        edges.of(37, "THE TRACE is empty ahead of it", COURT, "ask(1, 0) = -11", "ask(3, 0) = -100", "trace(0) = 13", "trace(1) = 10",
            "trace(2) = NONE", "ask(1, 1) = 6", "trace(0) = 24", "trace(2) = 20", "trace(3) = NONE");
        edges.of(37, "no COURT", "ask(0, 0) = BAD", "ask(0, 1) = BAD", "trace(0) = NONE");
    }

    private static void sizesByBodies() {
        edges.of(37, "SIZE of a tune: 11, 10, and MARK anew", COURT, "ask(0, 0) = 3", "trace(0) = 11", "trace(1) = 10", "trace(2) = 21",
            "trace(3) = 20", "trace(4) = NONE");
        edges.of(37, "SIZE of cheese: 0 less what 11 gives, with MARK of cheese", COURT, "ask(1, 0) = -11", "trace(0) = 12",
            "trace(1) = 11",
            "trace(2) = 10", "trace(3) = 24", "trace(4) = 21", "trace(5) = 20", "trace(6) = NONE");
        edges.of(37, "SIZE of steps: that of the nearest KIND, with MARK of steps", COURT, "ask(2, 0) = -992", "trace(0) = 11",
            "trace(1) = 10", "trace(2) = 22", "trace(3) = 21", "trace(4) = 20", "trace(5) = NONE");
        edges.of(37, "SIZE of rain: less 100", COURT, "ask(3, 0) = -100", "trace(0) = 13", "trace(1) = 10", "trace(2) = NONE");
        edges.of(37, "SIZE of a feather: twice", COURT, "ask(4, 0) = -196", "trace(0) = 14", "trace(1) = 13", "trace(2) = 10",
            "trace(3) = NONE");
    }

    private static void marksByBodies() {
        edges.of(37, "MARK of a tune: the number, and how many are dreamt", COURT, "ask(0, 1) = 2", "trace(0) = 21", "trace(1) = 20",
            "trace(2) = NONE");
        edges.of(37, "MARK of cheese: twice", COURT, "ask(1, 1) = 6", "trace(0) = 24", "trace(1) = 21", "trace(2) = 20", "trace(3) = NONE");
        edges.of(37, "MARK of steps: less 1000", COURT, "ask(2, 1) = -996", "trace(0) = 22", "trace(1) = 21", "trace(2) = 20",
            "trace(3) = NONE");
        edges.of(37, "MARK of rain: less SIZE", COURT, "ask(3, 1) = 103", "trace(0) = 23", "trace(1) = 20", "trace(2) = 13",
            "trace(3) = 10",
            "trace(4) = NONE");
        edges.of(37, "MARK of a feather: that of the nearest KIND, with SIZE of a feather", COURT, "ask(4, 1) = 200", "trace(0) = 23",
            "trace(1) = 20", "trace(2) = 14", "trace(3) = 13", "trace(4) = 10", "trace(5) = NONE");
    }

    private static void asksOfWhatIsDreamt() {
        edges.of(37, "all 8 THINGS are dreamt", ALL, "ask(0, 0) = 15", "ask(0, 1) = 8", "ask(1, 0) = -25", "ask(1, 1) = 18",
            "ask(2, 0) = -989", "ask(2, 1) = -990", "ask(3, 0) = -97", "ask(3, 1) = 100", "ask(4, 0) = -190", "ask(4, 1) = 194",
            "ask(5, 0) = -186", "ask(5, 1) = 191");
        edges.of(37, "nothing is dreamt", "court j3,0,1;d0;t0,0;c2,0;s1,0; = 3", "forget(0) = 0", "ask(0, 0) = 0", "ask(0, 1) = 0",
            "ask(1, 0) = -4", "ask(1, 1) = 2", "ask(2, 0) = -997", "ask(2, 1) = -998");
        edges.of(37, "THING is the one learnt", COURT, "learn(3, 5) = 0", "ask(3, 0) = -95", "ask(3, 1) = 98", "learn(0, 0) = 1",
            "ask(0, 0) = 2", "ask(0, 1) = 2");
    }

    private static void theTrace() {
        edges.of(38, "NONE: empty at first", "trace(0) = NONE", "trace(15) = NONE", COURT, "trace(0) = NONE");
        edges.of(38, "NONE: below 0, behind the last, and behind 16", COURT, "ask(1, 0) = -11", "trace(5) = 20", "trace(6) = NONE",
            "trace(15) = NONE", "trace(16) = NONE", "trace(17) = NONE", "trace(-1) = NONE", "trace(MOST) = NONE", "trace(LEAST) = NONE");
        edges.of(38, "empty ahead of an ask: nothing of a longer one stays", COURT, "ask(1, 0) = -11", "ask(3, 0) = -100", "trace(0) = 13",
            "trace(1) = 10", "trace(2) = NONE", "trace(3) = NONE", "trace(5) = NONE");
        edges.of(38, "of many asks the last alone", COURT, "ask(1, 0) = -11", "ask(1, 0) = -11", "ask(1, 0) = -11", "ask(1, 0) = -11",
            "trace(0) = 12", "trace(5) = 20", "trace(6) = NONE");
    }

    private static void theTraceStays() {
        edges.of(38, "an ask that is BAD leaves it", COURT, "ask(3, 0) = -100", "ask(5, 0) = BAD", "ask(-1, 1) = BAD", "ask(0, 2) = BAD",
            "ask(0, -1) = BAD", "trace(0) = 13", "trace(1) = 10", "trace(2) = NONE");
        edges.of(38, "other calls leave it, and another COURT", COURT, "ask(3, 0) = -100", "kind(1) = 2", "as(1, 1) = 1", "hum(0) = 11",
            "undo() = 0", "image(0) = 1", "restore(0) = 1", SMALL, "trace(0) = 13", "trace(1) = 10", "trace(2) = NONE");
    }

    private static void counts() {
        edges.of(39, "what is 0 to 7", COURT, "ints 3: 1", "hear(1) = 0", "hum(0) = 10", "tape j4", "count(0) = 1", "count(1) = 6",
            "count(2) = 5", "count(3) = 3", "count(4) = 1", "count(5) = 10", "count(6) = 2", "count(7) = 2", "count(8) = BAD",
            "count(-1) = BAD", "count(MOST) = BAD", "count(LEAST) = BAD");
        edges.of(39, "NIGHT, whatever was hummed in it", COURT, "hum(0) = 11", "hum(0) = 11", "count(4) = 0", "hear(1) = 0", "hear(1) = 0",
            "count(4) = 2", "count(5) = 10", "count(6) = 4", "hum(3) = 10", "count(4) = 2", "undo() = 4", "undo() = 3", "count(4) = 1");
        edges.of(39, "the least COURT", SMALL, "count(0) = 0", "count(1) = 3", "count(2) = 1", "count(3) = 0", "count(4) = 0",
            "count(5) = 1",
            "count(6) = 0", "count(7) = 0");
        edges.of(39, "the greatest COURT", "court j8,8,9;d0,1,2,3,4,5,6,7;t0,0;t0,0;t0,0;t0,0;t0,0;t0,0;"
            + "v0,0,1;v0,0,1;v0,0,1;v0,0,1;v5,0,7; = 6", "count(1) = 8", "count(2) = 6", "count(3) = 5", "count(5) = 255");
    }

    private static void countsWithoutACourt() {
        edges.of(39, "no COURT: ROWS and the tape alone are counted", "row(0, 0, 0) = 0", "row(7, 0, 1) = 1", "tape abc", "count(0) = 2",
            "count(1) = 0", "count(2) = 0", "count(3) = 0", "count(4) = 0", "count(5) = 0", "count(6) = 0", "count(7) = 3",
            "count(8) = BAD", "count(-1) = BAD");
    }

    private static void statusOfCallsWithRows() {
        edges.of(40, "sleep: NULL, PLACE, KIND, and 0", COURT, "sleep(0, 0, 1) = NULL", "status() = 1", "ints 0: 0 5",
            "sleep(0, 2, 1) = PLACE",
            "status() = 2", "sleep(0, 1, 1) = KIND", "status() = 3", "sleep(0, 0, 13) = BAD", "status() = 3", "sleep(0, 0, 1) = 11",
            "status() = 0");
        edges.of(40, "who: NULL, PLACE, KIND, and 0", COURT, "who(0, 0, 0, 0, 0, 0, 1) = NULL", "status() = 1", "ints 0: 0 5",
            "who(0, 0, 0, 2, 0, 0, 1) = PLACE", "status() = 2", "who(0, 0, 0, 1, 0, 0, 1) = KIND", "status() = 3",
            "who(0, 3, 0, 0, 0, 0, 1) = BAD", "status() = 3", "who(0, 0, 0, 0, 0, 0, 1) = 0", "status() = 0",
            "who(0, 0, 0, 0, 1, 0, 1) = NULL", "status() = 1", "who(0, 0, 0, 0, 0, 2, 1) = PLACE", "status() = 2");
        edges.of(40, "began: NULL, PLACE, KIND, and 0, NONE is no FINDING", COURT, "began(0, 0, 0, 0, 0, 1) = NULL", "status() = 1",
            "ints 0: 0 5", "began(0, 0, 2, 0, 0, 1) = PLACE", "status() = 2", "began(0, 0, 1, 0, 0, 1) = KIND", "status() = 3",
            "began(2, 0, 0, 0, 0, 1) = BAD", "status() = 3", "began(1, 0, 0, 0, 0, 1) = NONE", "status() = 0");
        edges.of(40, "snored: NULL, PLACE, KIND, and 0", COURT, "snored(0, 0, 0, 1) = NULL", "status() = 1", "ints 0: 0 5",
            "snored(0, 0, 2, 1) = PLACE", "status() = 2", "snored(0, 0, 1, 1) = KIND", "status() = 3", "snored(64, 0, 0, 1) = BAD",
            "status() = 3", "snored(0, 0, 0, 1) = 0", "status() = 0");
        edges.of(40, "STATE leaves it, of any call with a ROW", "drop(0) = NULL", "sleep(0, 0, 1) = STATE",
            "began(0, 0, 0, 0, 0, 1) = STATE",
            "snored(0, 0, 0, 1) = STATE", "status() = 1", "row(0, 0, 1) = 1", "sleep(0, 0, 1) = STATE", "status() = 0");
    }

    private static void statusOfAs() {
        edges.of(40, "as: KIND, and 0, BAD leaves it", COURT, "as(0, 2) = KIND", "status() = 3", "as(0, 6) = BAD", "as(5, 0) = BAD",
            "status() = 3", "as(0, 1) = 0", "status() = 0", "as(5, 0) = BAD", "status() = 0");
        edges.of(40, "FULL leaves it, and calls without a ROW", "drop(0) = NULL", "court j3,0,1;d0;t1,0; = 1", "hum(0) = 3",
            "hum(0) = FULL",
            "status() = 1", "kind(0) = 1", "ask(0, 0) = 3", "dreams(0, 0) = 1", "least(0, 0, -1) = 0", "order(-1) = 0", "first() = NONE",
            "same(0) = 0", "clashes(0) = 0", "drawn(1, 1, 0) = 0", "status() = 1");
        edges.of(40, "it outlasts another COURT, and asks change it not", "drop(0) = NULL", COURT, "status() = 1", "status() = 1");
    }

    /** Each call without a ROW, refused and answered, behind a FINDING. */
    private static void statusOfOtherCalls() {
        String[] refused = {"feed(256) = BAD", "court() = -1000100", "undo() = STATE", "hum(5) = BAD", "hear(3) = BAD", "appeal(3) = BAD",
            "appeal(0) = STATE", "forget(6) = BAD", "forget(1) = STATE", "learn(5, 0) = BAD", "ofHum(5, 0) = BAD", "ofCase(3, 0) = BAD",
            "stand(5) = BAD", "dreams(9, 0) = BAD", "least(64, 0, -1) = BAD", "save(3, -1) = BAD", "can(3, 0) = BAD", "order(-3) = BAD",
            "clashes(2) = BAD", "same(2) = BAD", "gone(3, 0, 0) = BAD", "drawn(61, 1, 0) = BAD", "image(2) = BAD", "restore(2) = BAD",
            "restore(0) = STATE", "kind(5) = BAD", "ask(5, 0) = BAD", "count(8) = BAD"};
        String[] answered = {"feed(59) = 1", "fault() = 0", "hum(0) = 11", "hear(2) = 1", "forget(0) = 8", "learn(0, 1) = 1",
            "ofHum(0, 0) = 1", "ofCase(0, 0) = 0", "stand(0) = 9", "dreams(0, 0) = 1", "least(0, 0, -1) = 0", "save(2, -1) = 0",
            "can(2, 0) = 2", "order(5) = NONE", "first() = 1", "clashes(0) = 1", "deaf() = 4", "same(0) = 0", "gone(0, 0, 0) = 0",
            "drawn(0, 1, 0) = 0", "image(0) = 1", "kind(0) = 1", "ask(0, 0) = 3", "trace(0) = NONE", "count(0) = 0"};
        for (String call : refused) {
            edges.of(40, "what is refused leaves it, as it has no ROW", COURT, "drop(0) = NULL", call, "status() = 1");
        }
        for (String call : answered) {
            edges.of(40, "what is answered leaves it, as it has no ROW", COURT, "drop(0) = NULL", call, "status() = 1");
        }
    }
}
