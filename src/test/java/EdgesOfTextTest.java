/** The boundary cases of a new object and of texts: promises 1 and 6 to 8, with part 1 of the Terms. */
public final class EdgesOfTextTest {
    private static final String LAW = "j4,2,3;", DREAM = LAW + "d0,1;", ONE = DREAM + "t0,1;";
    private static final String SIX = DREAM + "t0,0;t1,1;t2,2;t3,3;r0,0;r1,1;";
    private static final String FIVE_CASES = "v0,0,1;v0,1,2;v0,2,3;v0,3,0;v0,0,2;";
    /** 119 bytes but for the last sign of the last HUM: j, a long dream, and one HUM. */
    private static final String NEARLY_FULL = "j8,8,9;d" + "0,".repeat(52) + "07;t0,1";
    private static final Edges edges = new Edges();

    public static void main(String[] args) {
        aNewObject();
        bytesOfTheTape();
        aFullTape();
        tokensThatAreNone();
        numbersOfFigures();
        theLaw();
        theDream();
        theHums();
        sixHums();
        theCases();
        fiveCases();
        theOrderOfParts();
        theEnd();
        ofOneTokenTheLeast();
        theTapeIsEmptyThen();
        inPlaceOfTheOneBefore();
        allStays();
        theLatestFault();
        edges.end(1, 6, 7, 8);
    }

    private static void aNewObject() {
        edges.of(1, "no COURT: nothing is counted", "count(0) = 0", "count(1) = 0", "count(2) = 0", "count(3) = 0", "count(4) = 0",
            "count(5) = 0", "count(6) = 0", "count(7) = 0", "fault() = 0", "status() = 0", "trace(0) = NONE");
        edges.of(1, "no COURT: what asks for one is STATE", "stand(0) = STATE", "dreams(0, 0) = STATE", "least(0, 0, -1) = STATE",
            "order(-1) = STATE", "first() = STATE", "clashes(0) = STATE", "deaf() = STATE", "same(0) = STATE",
            "drawn(0, 1, 0) = STATE", "image(0) = STATE", "restore(0) = STATE", "restore(1) = STATE", "undo() = STATE");
        edges.of(1, "no COURT: there is no HUM, no CASE, no THING", "hum(0) = BAD", "hear(0) = BAD", "appeal(0) = BAD",
            "forget(0) = BAD", "learn(0, 0) = BAD", "ofHum(0, 0) = BAD", "ofCase(0, 0) = BAD", "save(0, -1) = BAD",
            "can(0, 0) = BAD", "gone(0, 0, 0) = BAD", "kind(0) = BAD", "as(0, 0) = BAD", "ask(0, 0) = BAD",
            "who(0, 0, 0, 0, 0, 0, 1) = BAD");
        edges.of(1, "all ROWS are missing", "drop(0) = NULL", "drop(1) = NULL", "drop(2) = NULL", "drop(3) = NULL",
            "drop(4) = NULL", "drop(5) = NULL", "drop(6) = NULL", "drop(7) = NULL");
        edges.of(1, "no COURT, but ROWS: STATE comes ahead of NULL and KIND", "ints 0: 0", "sleep(0, 0, 1) = STATE",
            "sleep(1, 0, 1) = STATE", "began(0, 0, 0, 0, 0, 1) = STATE", "snored(0, 0, 0, 1) = STATE", "status() = 0");
    }

    private static void bytesOfTheTape() {
        edges.of(6, "a byte is 0 to 255", "feed(0) = 1", "feed(255) = 2", "feed(-1) = BAD", "feed(256) = BAD", "feed(MOST) = BAD",
            "feed(LEAST) = BAD", "count(7) = 2");
        edges.of(6, "bytes that are no TOKEN come, too", "feed(32) = 1", "feed(10) = 2", "feed(233) = 3", "count(7) = 3",
            "court() = -1000100", "fault() = 1");
        edges.of(6, "a BAD byte does not come between two", "tape " + LAW, "feed(256) = BAD", "tape d0;t0,0;", "court() = 1");
        edges.of(6, "the tape needs no COURT, and outlasts a call of another kind", "tape " + DREAM, "drop(0) = NULL",
            "hum(0) = BAD", "tape t1,1;", "court() = 1", "ofHum(0, 0) = 1");
    }

    private static void aFullTape() {
        edges.of(6, "120 bytes, and one more is FULL", "tape " + NEARLY_FULL, "count(7) = 119", "feed(59) = 120", "feed(59) = FULL",
            "feed(0) = FULL", "count(7) = 120");
        edges.of(6, "BAD comes ahead of FULL", "tape " + NEARLY_FULL + ";", "feed(-1) = BAD", "feed(256) = BAD", "count(7) = 120");
        edges.of(6, "what is FULL does not come: 120 bytes are read", "tape " + NEARLY_FULL + ";", "feed(120) = FULL",
            "court() = 1", "stand(0) = 129", "count(7) = 0");
        edges.of(6, "there is room again behind court()", "tape " + NEARLY_FULL + ";", "feed(59) = FULL", "court() = 1",
            "feed(59) = 1", "count(7) = 1");
        edges.of(7, "119 bytes, the last sign is not there: a FAULT at 119", "court " + NEARLY_FULL + " = fault 1 at 119");
        edges.of(7, "120 bytes, the last one is the wrong one: a FAULT at 119", "court " + NEARLY_FULL + ", = fault 1 at 119");
        edges.of(7, "120 bytes, cut within a HUM: a FAULT at 120",
            "court " + NEARLY_FULL.replaceFirst("0,", "00,") + " = fault 1 at 120");
        edges.of(7, "120 bytes that end with a NUMBER of two figures",
            "court " + NEARLY_FULL.replace(";t0,1", ",00,01") + " = fault 1 at 120");
        edges.of(7, "a run of three figures at the end of 120 bytes",
            "court " + NEARLY_FULL.replace(";t0,1", ",0011") + "1 = fault 1 at 115");
    }

    private static void tokensThatAreNone() {
        for (int sign : new int[] {0, 9, 10, 32, 43, 45, 46, 47, 58, 60, 64, 65, 74, 90, 91, 96, 123, 127, 128, 234, 255}) {
            edges.of(7, "byte " + sign + " is no TOKEN, at first", "court " + (char) sign + LAW + " = fault 1 at 0");
            edges.of(7, "byte " + sign + " is no TOKEN, for a NUMBER", "court j" + (char) sign + ",2,3; = fault 1 at 1");
            edges.of(7, "byte " + sign + " is no TOKEN, for a SIGN", "court j4" + (char) sign + "2,3; = fault 1 at 2");
            edges.of(7, "byte " + sign + " is no TOKEN, behind all", "court " + ONE + (char) sign + " = fault 1 at 17");
        }
        edges.of(7, "letters are each by itself", "court jj4,2,3; = fault 1 at 1", "court " + LAW + "dd0; = fault 1 at 8",
            "court " + DREAM + "tt0,0; = fault 1 at 13", "court " + ONE + "vv0,0,1; = fault 1 at 18");
        edges.of(7, "a sign is not above 255: it is a byte", "court " + ONE + (char) 241 + " = fault 1 at 17");
    }

    private static void numbersOfFigures() {
        edges.of(7, "NUMBERS have one figure or two", "court j04,02,03;d00,01;t00,01;v00,00,01; = 1", "count(1) = 4",
            "stand(0) = 3", "ofHum(0, 1) = 1", "ofCase(0, 2) = 1");
        edges.of(7, "a run of three figures is none, at its first", "court j004,2,3; = fault 1 at 1",
            "court j4,002,3; = fault 1 at 3", "court j4,2,003; = fault 1 at 5", "court " + LAW + "d000; = fault 1 at 8",
            "court " + DREAM + "t000,0; = fault 1 at 13", "court " + DREAM + "t0,000; = fault 1 at 15",
            "court " + ONE + "v000,0,1; = fault 1 at 18", "court " + ONE + "v0,000,1; = fault 1 at 20",
            "court " + ONE + "v0,0,001; = fault 1 at 22");
        edges.of(7, "a run of more figures is none either", "court j0004,2,3; = fault 1 at 1", "court j00044,2,3; = fault 1 at 1",
            "court j4,2,3333333; = fault 1 at 5");
        edges.of(7, "a run of three where no NUMBER can stand, at its first", "court 004j = fault 1 at 0",
            "court " + LAW + "123; = fault 1 at 7", "court " + ONE + "123; = fault 1 at 17");
        edges.of(7, "figures alone are no text", "court 4 = fault 1 at 0", "court 44 = fault 1 at 0");
    }

    private static void theLaw() {
        edges.of(7, "THINGS are 3 to 8", "court j3,2,3;d2;t0,0; = 1", "count(1) = 3", "court j8,2,3;d7;t0,0; = 1", "count(1) = 8",
            "court j2,2,3;d0;t0,0; = fault 2 at 1", "court j9,2,3;d0;t0,0; = fault 2 at 1", "court j0,2,3; = fault 2 at 1",
            "court j10,2,3; = fault 2 at 1", "court j99,2,3; = fault 2 at 1", "court j02,2,3; = fault 2 at 1");
        edges.of(7, "WEARS is 0 to 8, whatever the THINGS", "court j3,0,3;d0;t0,0; = 1", "court j3,8,3;d0;t0,0; = 1",
            "court j3,9,3;d0;t0,0; = fault 2 at 3", "court j8,9,3;d0;t0,0; = fault 2 at 3", "court j3,10,3; = fault 2 at 3",
            "court j3,99,3; = fault 2 at 3");
        edges.of(7, "HUMS of a NIGHT are 1 to 9", "court j3,0,1;d0;t0,0; = 1", "hum(0) = 1", "hum(0) = FULL",
            "court j3,0,9;d0;t0,0; = 1", "hum(0) = 1", "court j3,0,0;d0;t0,0; = fault 2 at 5",
            "court j3,0,10;d0;t0,0; = fault 2 at 5", "court j3,0,00; = fault 2 at 5", "court j3,0,99; = fault 2 at 5");
        edges.of(7, "a law has three NUMBERS and its SIGNS", "court j; = fault 1 at 1", "court j,2,3; = fault 1 at 1",
            "court j4; = fault 1 at 2", "court j4,; = fault 1 at 3", "court j4,2; = fault 1 at 4", "court j4,2,; = fault 1 at 5",
            "court j4,2,3, = fault 1 at 6", "court j4,2,3d = fault 1 at 6", "court j4,,2 = fault 1 at 3",
            "court j4;2 = fault 1 at 2", "court j4,2;3 = fault 1 at 4", "court j4t2 = fault 1 at 2", "court jd = fault 1 at 1");
    }

    private static void theDream() {
        edges.of(7, "THINGS of the dream are those there are", "court j3,2,3;d2;t0,0; = 1", "stand(0) = 4",
            "court j3,2,3;d3;t0,0; = fault 2 at 8", "court j8,2,3;d7;t0,0; = 1", "stand(0) = 128",
            "court j8,2,3;d8;t0,0; = fault 2 at 8", "court j8,2,3;d0;t0,0; = 1", "stand(0) = 1",
            "court j8,2,3;d10; = fault 2 at 8");
        edges.of(7, "those behind a comma, too", "court j3,2,3;d0,2;t0,0; = 1", "stand(0) = 5",
            "court j3,2,3;d0,3;t0,0; = fault 2 at 10", "court j3,2,3;d0,0,3; = fault 2 at 12");
        edges.of(7, "perhaps some again, and all of them", "court j3,2,3;d2,2,0,2;t0,0; = 1", "stand(0) = 5",
            "court j8,0,1;d7,6,5,4,3,2,1,0,0;t0,0; = 1", "stand(0) = 255");
        edges.of(7, "one at least", "court " + LAW + "d; = fault 1 at 8", "court " + LAW + "d,0; = fault 1 at 8",
            "court " + LAW + "dt0,0; = fault 1 at 8");
        edges.of(7, "one behind each comma", "court " + LAW + "d0,; = fault 1 at 10", "court " + LAW + "d0,,1; = fault 1 at 10",
            "court " + LAW + "d0,t = fault 1 at 10", "court " + LAW + "d01,1t = fault 1 at 12");
        edges.of(7, "one dream alone", "court " + LAW + "d0;d1;t0,0; = fault 1 at 10", "court " + LAW + "t0,0; = fault 1 at 7",
            "court " + LAW + "v0,0,1; = fault 1 at 7", "court " + LAW + LAW + " = fault 1 at 7");
    }

    private static void theHums() {
        edges.of(7, "THING and OTHER are those there are", "court " + LAW + "d0;t0,3;r3,0; = 2", "ofHum(0, 0) = 0",
            "ofHum(0, 1) = 3", "ofHum(1, 0) = 3", "ofHum(1, 1) = 0", "court " + DREAM + "t4,0; = fault 2 at 13",
            "court " + DREAM + "t0,4; = fault 2 at 15", "court " + DREAM + "t99,0; = fault 2 at 13",
            "court " + DREAM + "t0,99; = fault 2 at 15", "court " + DREAM + "t0,10; = fault 2 at 15");
        edges.of(7, "the last THING of 8 and of 3", "court j8,0,1;d0;f7,7; = 1", "court j3,0,1;d0;f2,2; = 1",
            "court j8,0,1;d0;f8,7; = fault 2 at 11", "court j3,0,1;d0;f2,3; = fault 2 at 13");
        edges.of(7, "THINGS of a HUM are perhaps alike", "court " + DREAM + "t0,0;c1,1;s2,2;r3,3;f0,0; = 5");
        edges.of(7, "SORTS are t, c, s, r, f alone", "court " + DREAM + "t0,0; = 1", "kind(0) = 1", "court " + DREAM + "c0,0; = 1",
            "kind(0) = 2", "court " + DREAM + "s0,0; = 1", "kind(0) = 3", "court " + DREAM + "r0,0; = 1", "kind(0) = 4",
            "court " + DREAM + "f0,0; = 1", "kind(0) = 5");
        for (char letter = 'a'; letter <= 'z'; letter++) {
            if ("tcsrf".indexOf(letter) < 0) {
                edges.of(7, "no SORT is " + letter, "court " + DREAM + letter + "0,0; = fault 1 at 12");
            }
            if ("tcsrfv".indexOf(letter) < 0) {
                edges.of(7, "no SORT, no case is " + letter, "court " + ONE + letter + "0,0; = fault 1 at 17");
            }
        }
        edges.of(7, "a HUM has two NUMBERS and its SIGNS", "court " + DREAM + "t; = fault 1 at 13",
            "court " + DREAM + "t,0; = fault 1 at 13", "court " + DREAM + "t0; = fault 1 at 14",
            "court " + DREAM + "t0,; = fault 1 at 15", "court " + DREAM + "t0,0, = fault 1 at 16",
            "court " + DREAM + "t0,0t = fault 1 at 16", "court " + DREAM + "t0,,0 = fault 1 at 15");
    }

    private static void sixHums() {
        edges.of(7, "one HUM at least", "court " + DREAM + " = fault 1 at 12", "court " + DREAM + "v0,0,1; = fault 1 at 12");
        edges.of(7, "how many HUMS there are, 1 to 6", "court " + DREAM + "t0,0; = 1", "court " + DREAM + "t0,0;t0,0; = 2",
            "court " + SIX + " = 6", "count(2) = 6", "kind(5) = 4", "kind(6) = BAD");
        edges.of(7, "a seventh has no room, whatever it tells", "court " + SIX + "t0,0; = fault 3 at 42",
            "court " + SIX + "c = fault 3 at 42", "court " + SIX + "s9,9; = fault 3 at 42", "court " + SIX + "r;; = fault 3 at 42",
            "court " + SIX + "fff = fault 3 at 42");
        edges.of(7, "a FAULT ahead of the seventh comes first", "court " + SIX.replace("r1,1", "r1,4") + "t0,0; = fault 2 at 40");
    }

    private static void theCases() {
        edges.of(7, "PLEA is a HUM told", "court " + ONE + "v0,0,1; = 1", "ofCase(0, 0) = 0", "court " + ONE + "v1,0,1; = fault 2 at 18",
            "court " + ONE + "t0,0;v1,0,1; = 2", "ofCase(0, 0) = 1", "court " + ONE + "t0,0;v2,0,1; = fault 2 at 23",
            "court " + SIX + "v5,0,1; = 6", "ofCase(0, 0) = 5", "court " + SIX + "v6,0,1; = fault 2 at 43",
            "court " + SIX + "v99,0,1; = fault 2 at 43");
        edges.of(7, "LOSES and WINS are THINGS there are", "court " + ONE + "v0,3,0; = 1", "ofCase(0, 1) = 3", "ofCase(0, 2) = 0",
            "court " + ONE + "v0,0,3; = 1", "ofCase(0, 1) = 0", "ofCase(0, 2) = 3", "court " + ONE + "v0,4,0; = fault 2 at 20",
            "court " + ONE + "v0,0,4; = fault 2 at 22", "court " + ONE + "v0,99,0; = fault 2 at 20");
        edges.of(7, "LOSES and WINS are not the same", "court " + ONE + "v0,0,0; = fault 2 at 22",
            "court " + ONE + "v0,3,3; = fault 2 at 22", "court " + ONE + "v0,3,03; = fault 2 at 22",
            "court " + ONE + "v0,03,3; = fault 2 at 23", "court " + ONE + "v0,2,2 = fault 2 at 22");
        edges.of(7, "LOSES may be that of another CASE, or its WINS", "court " + ONE + "v0,0,1;v0,0,1;v0,1,0; = 1", "count(3) = 3");
        edges.of(7, "a case has three NUMBERS and its SIGNS", "court " + ONE + "v; = fault 1 at 18", "court " + ONE + "v0; = fault 1 at 19",
            "court " + ONE + "v0,; = fault 1 at 20", "court " + ONE + "v0,0; = fault 1 at 21", "court " + ONE + "v0,0,; = fault 1 at 22",
            "court " + ONE + "v0,0,1, = fault 1 at 23", "court " + ONE + "v0,0,1v = fault 1 at 23",
            "court " + ONE + "v,0,1; = fault 1 at 18");
    }

    private static void fiveCases() {
        edges.of(7, "no CASE, and one", "court " + ONE + " = 1", "count(3) = 0", "court " + ONE + "v0,0,1; = 1", "count(3) = 1");
        edges.of(7, "five CASES at most", "court " + ONE + FIVE_CASES + " = 1", "count(3) = 5", "ofCase(4, 2) = 2",
            "ofCase(5, 0) = BAD", "stand(2) = 31");
        edges.of(7, "a sixth has no room, whatever it tells", "court " + ONE + FIVE_CASES + "v0,0,1; = fault 3 at 52",
            "court " + ONE + FIVE_CASES + "v = fault 3 at 52", "court " + ONE + FIVE_CASES + "v9,9; = fault 3 at 52",
            "court " + ONE + FIVE_CASES + "vv = fault 3 at 52");
        edges.of(7, "a FAULT ahead of the sixth comes first",
            "court " + ONE + FIVE_CASES.replace("v0,0,2", "v0,2,2") + "v0,0,1; = fault 2 at 50");
        edges.of(7, "six HUMS and five CASES", "court " + SIX + FIVE_CASES + " = 6", "count(2) = 6", "count(3) = 5");
    }

    private static void theOrderOfParts() {
        edges.of(7, "a text begins with its law", "court d0;t0,0; = fault 1 at 0", "court ;j4,2,3; = fault 1 at 0",
            "court t0,0; = fault 1 at 0", "court 4,2,3; = fault 1 at 0");
        edges.of(7, "no HUM behind a case", "court " + ONE + "v0,0,1;t0,0; = fault 1 at 24");
        edges.of(7, "no seventh HUM, and none behind a case: it cannot stand there",
            "court " + SIX + "v0,0,1;t0,0; = fault 1 at 49", "court " + ONE + FIVE_CASES + "t0,0; = fault 1 at 52");
        edges.of(7, "no law, no dream behind a HUM or a case", "court " + ONE + LAW + " = fault 1 at 17",
            "court " + ONE + "d0; = fault 1 at 17", "court " + ONE + "v0,0,1;d0; = fault 1 at 24",
            "court " + ONE + "v0,0,1;j = fault 1 at 24");
        edges.of(7, "nothing behind all", "court " + ONE + "; = fault 1 at 17", "court " + ONE + ", = fault 1 at 17",
            "court " + ONE + "0 = fault 1 at 17", "court " + ONE + "v0,0,1;; = fault 1 at 24",
            "court " + ONE + "v0,0,1;1 = fault 1 at 24");
    }

    private static void theEnd() {
        edges.of(7, "the end of an empty tape is at 0", "court  = fault 1 at 0", "count(7) = 0", "stand(0) = STATE");
        String whole = ONE + "v0,0,1;";
        for (int length = 1; length < whole.length(); length++) {
            if (length != ONE.length()) {
                edges.of(7, "the end, behind " + length + " bytes",
                    "court " + whole.substring(0, length) + " = fault 1 at " + length);
            }
        }
    }

    private static void ofOneTokenTheLeast() {
        edges.of(7, "what cannot stand there is 1, though its NUMBER is not as told", "court " + ONE + "99 = fault 1 at 17",
            "court j4,2,3;9 = fault 1 at 7", "court j4,2,3d99; = fault 1 at 6");
        edges.of(7, "a run of three figures is 1, not 2", "court j999,2,3; = fault 1 at 1", "court " + ONE + "v999,0,1; = fault 1 at 18");
        edges.of(7, "the first TOKEN that has one, of several", "court j2,9,0;x = fault 2 at 1", "court j4,9,0;x = fault 2 at 3",
            "court j4,2,0;x = fault 2 at 5", "court j4,2,3;x = fault 1 at 7", "court j4,2,3;d4;x = fault 2 at 8",
            "court " + ONE + "v0,2,2;x = fault 2 at 22");
    }

    private static void theTapeIsEmptyThen() {
        edges.of(7, "empty behind a COURT", "tape " + ONE, "count(7) = 17", "court() = 1", "count(7) = 0", "court() = -1000100",
            "fault() = 1", "count(2) = 1");
        edges.of(7, "empty behind a FAULT", "tape " + DREAM, "court() = -1000112", "count(7) = 0", "feed(106) = 1");
        edges.of(7, "a shorter text is read to its own end", "court " + ONE + "t1,1;v0,0,1; = 2",
            "court " + ONE + "t1,1 = fault 1 at 21", "court " + ONE + " = 1", "count(2) = 1", "count(3) = 0");
        edges.of(7, "figures of the text before are none of this one", "court j40000,1,1; = fault 1 at 1", "court j4 = fault 1 at 2");
    }

    private static void inPlaceOfTheOneBefore() {
        String before = "court j5,1,2;d0,4;c1,0;t2,1;v1,4,0;v0,0,4; = 2";
        edges.of(7, "NIGHT is 0 then", before, "hear(0) = 2", "hear(1) = 2", "count(4) = 2", "court " + ONE + " = 1", "count(4) = 0");
        edges.of(7, "the DREAM is as told", before, "hum(0) = 23", "court " + ONE + " = 1", "stand(0) = 3", "count(5) = 3");
        edges.of(7, "nothing was hummed", before, "hum(0) = 23", "hum(0) = 23", "court " + ONE + " = 1", "stand(1) = 0", "hum(0) = 3",
            "hum(0) = 3", "hum(0) = 3", "hum(0) = FULL");
        edges.of(7, "all CASES are OPEN", before, "hear(0) = 2", "hear(1) = 2", "appeal(1) = 0", before, "stand(2) = 3", "stand(3) = 0",
            "stand(4) = 0", "ofCase(0, 3) = 0", "ofCase(1, 3) = 0");
        edges.of(7, "no ACT can be undone", before, "hum(0) = 23", "learn(0, 3) = 1", "count(6) = 2", before, "count(6) = 0",
            "undo() = STATE", "ofHum(0, 0) = 1");
        edges.of(7, "HUMS and CASES are those told, and no others", before, "court " + ONE + " = 1", "count(2) = 1", "count(3) = 0",
            "hum(1) = BAD", "hear(0) = BAD", "kind(0) = 1", "ofHum(0, 0) = 0", "ofHum(0, 1) = 1");
        edges.of(7, "WEARS is the one told", before, "court j3,3,1;d0,1,2;r0,0;v0,0,1; = 1", "hear(0) = 1", "stand(0) = 6", before,
            "hear(0) = 2", "stand(0) = 1");
        edges.of(7, "THINGS are those told", before, "forget(4) = 1", "court " + ONE + " = 1", "forget(4) = BAD", "least(16, 0, -1) = BAD");
    }

    private static void allStays() {
        String before = "court j5,1,2;d0,4;c1,0;t2,1;v1,4,0;v0,0,4; = 2";
        edges.of(7, "all stays by a FAULT at any place", "ints 0: 1 0", before, "hum(0) = 23", "hear(0) = 2", "learn(0, 4) = 1",
            "image(1) = 1", "ask(1, 0) = 4", "court x = fault 1 at 0", "court j8,8,9;d7;f0,0;x = fault 1 at 15",
            "court j8,8,9;d7;f0,0;v0,1,1; = fault 2 at 20", "court j2 = fault 2 at 1", "undo() = 2", "ofHum(0, 0) = 1",
            "undo() = 1", "stand(0) = 23", "undo() = 0", "stand(0) = 17", "sleep(0, 0, 2) = 23");
        edges.of(7, "no COURT stays none by a FAULT", "court " + ONE + "x = fault 1 at 17", "stand(0) = STATE", "count(1) = 0",
            "count(2) = 0", "hum(0) = BAD", "image(0) = STATE");
    }

    private static void theLatestFault() {
        edges.of(8, "0 before one", "fault() = 0", "court " + ONE + " = 1", "fault() = 0");
        edges.of(8, "1, 2, 3, the latest one", "court x = fault 1 at 0", "court j9 = fault 2 at 1", "court " + SIX + "t = fault 3 at 42",
            "court j4 = fault 1 at 2", "fault() = 1");
        edges.of(8, "a COURT without one leaves it", "court j9 = fault 2 at 1", "court " + ONE + " = 1", "fault() = 2", "hum(0) = 3",
            "undo() = 0", "fault() = 2");
        edges.of(8, "refusals are no FAULTS", "hum(0) = BAD", "drop(0) = NULL", "undo() = STATE", "feed(256) = BAD", "fault() = 0");
    }
}
