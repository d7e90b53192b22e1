/** The boundary cases of what fits, of chances, draws and IMAGES: promises 28 to 34, with part 3 of the Terms. */
public final class EdgesOfFittingTest {
    private static final String COURT = "court j6,2,3;d0,3;t1,0;c5,2;s4,1;r0,0;f2,3;v0,3,1;v3,5,4;v4,1,2; = 5";
    private static final String SMALL = "court j3,0,1;d0;t1,0; = 1";
    /** A HUM that leaves all DREAMS, and a tune. */
    private static final String LEFT = "court j8,0,1;d0;s0,0;t1,0; = 2";
    private static final String HUMS = "ints 0: 0 4 3", DREAMS = "ints 1: 11 7 6";
    /** Six tunes, one for each THING up to 5: a draw is seen by what it brings. */
    private static final String TUNES = "court j8,0,1;d7;t0,0;t1,0;t2,0;t3,0;t4,0;t5,0; = 6";
    private static final Edges edges = new Edges();

    public static void main(String[] args) {
        whoOfNumbers();
        whoOfRows();
        whoOfFindings();
        whoThatFits();
        whoAtTheEdges();
        beganOfNumbers();
        beganOfFindings();
        beganThatFits();
        snoredOfNumbers();
        snoredOfFindings();
        snoredPlaces();
        goneOfNumbers();
        goneInLowestTerms();
        goneByWhatIsDreamt();
        drawnOfNumbers();
        drawnNumbersWrap();
        drawnTerms();
        imagesOfNumbers();
        imagesKeepAll();
        imagesLeaveTheRest();
        edges.end(28, 29, 30, 31, 32, 33, 34);
    }

    private static void whoOfNumbers() {
        edges.of(28, "no COURT is BAD: there is no such HUM", "who(0, 0, 0, 0, 1, 0, 1) = BAD", HUMS, DREAMS,
            "who(0, 0, 0, 0, 1, 0, 3) = BAD");
        edges.of(28, "HUMS are those told", COURT, HUMS, DREAMS, "who(0, 0, 0, 0, 1, 0, 3) = 10", "who(4, 0, 0, 0, 1, 0, 3) = 32",
            "who(5, 0, 0, 0, 1, 0, 3) = BAD", "who(-1, 0, 0, 0, 1, 0, 3) = BAD", "who(MOST, 0, 0, 0, 1, 0, 3) = BAD",
            "who(LEAST, 0, 0, 0, 1, 0, 3) = BAD");
        edges.of(28, "which is 0 to 2", COURT, HUMS, DREAMS, "who(3, 0, 0, 0, 1, 0, 3) = 16", "who(3, 1, 0, 0, 1, 0, 3) = 63",
            "who(3, 2, 0, 0, 1, 0, 3) = 1", "who(3, 3, 0, 0, 1, 0, 3) = BAD", "who(3, -1, 0, 0, 1, 0, 3) = BAD",
            "who(3, MOST, 0, 0, 1, 0, 3) = BAD", "who(3, LEAST, 0, 0, 1, 0, 3) = BAD");
        edges.of(28, "n is 1 to 12", LEFT, "ints 0: 0 0 0 0 0 0 0 0 0 0 0 1 1", "ints 1: 1 1 1 1 1 1 1 1 1 1 1 3 3",
            "who(1, 1, 0, 0, 1, 0, 12) = 2", "who(1, 1, 0, 0, 1, 0, 11) = 255", "who(1, 1, 0, 0, 1, 0, 1) = 255",
            "who(1, 1, 0, 0, 1, 0, 0) = BAD", "who(1, 1, 0, 0, 1, 0, 13) = BAD", "who(1, 1, 0, 0, 1, 0, -1) = BAD",
            "who(1, 1, 0, 0, 1, 0, MOST) = BAD", "who(1, 1, 0, 0, 1, 0, LEAST) = BAD");
    }

    private static void whoOfRows() {
        edges.of(28, "ROWS are 0 .. 7, both", COURT, "ints 0: 0", "ints 7: 11", "who(0, 1, 0, 0, 7, 0, 1) = 2", "ints 7: 0", "ints 0: 11",
            "who(0, 1, 7, 0, 0, 0, 1) = 2", "who(0, 1, -1, 0, 0, 0, 1) = BAD", "who(0, 1, 8, 0, 0, 0, 1) = BAD",
            "who(0, 1, 7, 0, -1, 0, 1) = BAD", "who(0, 1, 7, 0, 8, 0, 1) = BAD", "who(0, 1, LEAST, 0, 0, 0, 1) = BAD",
            "who(0, 1, 7, 0, MOST, 0, 1) = BAD");
        edges.of(28, "the same ROW tells both", COURT, "ints 0: 0 11", "who(0, 1, 0, 0, 0, 1, 1) = 2", "who(0, 1, 0, 0, 0, 0, 1) = 0");
        edges.of(28, "the same ITEM tells both", "court j3,0,1;d1;t2,0;r0,1;t0,0; = 3", "ints 0: 1 0", "who(1, 0, 0, 1, 0, 1, 1) = 0",
            "forget(1) = 0", "who(0, 0, 0, 1, 0, 1, 1) = 56", "who(1, 0, 0, 0, 0, 0, 1) = 2");
        edges.of(28, "ROWS of two LANES tell them, too", COURT, "bytes 0: 0 4 3", "shorts 1: 11 7 6", "who(0, 0, 0, 0, 1, 0, 3) = 10",
            "status() = 0");
        edges.of(28, "BAD comes ahead of FINDINGS", COURT, "who(5, 0, 0, 0, 1, 0, 1) = BAD", "who(0, 3, 0, 0, 1, 0, 1) = BAD",
            "who(0, 0, 0, 0, 8, 0, 1) = BAD", "who(0, 0, 0, 0, 1, 0, 13) = BAD");
    }

    private static void whoOfFindings() {
        edges.of(28, "NULL of the HUMS' ROW, ahead of its PLACE and of the other one", COURT, DREAMS, "who(0, 0, 0, 0, 1, 0, 1) = NULL",
            "who(0, 0, 0, -1, 1, 0, 1) = NULL", "who(0, 0, 0, 0, 1, 9, 1) = NULL", "who(0, 0, 2, 0, 3, 0, 1) = NULL");
        edges.of(28, "PLACE of the HUMS' ROW", COURT, HUMS, DREAMS, "who(0, 0, 0, 0, 1, 0, 3) = 10", "who(0, 0, 0, -1, 1, 0, 1) = PLACE",
            "who(0, 0, 0, 1, 1, 0, 3) = PLACE", "who(0, 0, 0, 3, 1, 0, 1) = PLACE", "who(0, 0, 0, MOST, 1, 0, 12) = PLACE",
            "who(0, 0, 0, LEAST, 1, 0, 1) = PLACE", "row(2, 2, 0) = 0", "who(0, 0, 2, 0, 1, 0, 1) = PLACE");
        edges.of(28, "PLACE of the HUMS' ROW comes ahead of KIND, and of NULL of the other one", COURT, "ints 0: 9",
            "who(0, 0, 0, 0, 2, 0, 2) = PLACE", "who(0, 0, 0, -1, 2, 0, 1) = PLACE");
        edges.of(28, "KIND: an ITEM of it is no HUM", COURT, "ints 0: 0 5 -1 4", DREAMS, "who(0, 0, 0, 0, 1, 0, 2) = KIND",
            "who(0, 0, 0, 2, 1, 0, 1) = KIND", "who(0, 0, 0, 1, 1, 0, 3) = KIND", "who(0, 1, 0, 0, 1, 0, 1) = 2",
            "who(0, 2, 0, 3, 1, 0, 1) = 0");
        edges.of(28, "KIND comes ahead of NULL and PLACE of the other one", COURT, "ints 0: 5", DREAMS, "who(0, 0, 0, 0, 2, 0, 1) = KIND",
            "who(0, 0, 0, 0, 1, -1, 1) = KIND", "who(0, 0, 0, 0, 1, 3, 1) = KIND");
        edges.of(28, "NULL of the other one, ahead of its PLACE", COURT, HUMS, "who(0, 0, 0, 0, 1, 0, 3) = NULL",
            "who(0, 0, 0, 0, 1, -1, 3) = NULL");
        edges.of(28, "PLACE of the other one", COURT, HUMS, DREAMS, "who(0, 0, 0, 0, 1, -1, 1) = PLACE", "who(0, 0, 0, 0, 1, 1, 3) = PLACE",
            "who(0, 0, 0, 0, 1, 3, 1) = PLACE", "who(0, 0, 0, 0, 1, MOST, 3) = PLACE", "who(0, 0, 0, 0, 1, LEAST, 1) = PLACE",
            "ints 2: 11 7", "who(0, 0, 0, 0, 2, 0, 3) = PLACE", "row(3, 2, 0) = 0", "who(0, 0, 0, 0, 3, 0, 1) = PLACE");
        edges.of(28, "40 ITEMS of each", COURT, "row(0, 0, 40) = 40", "row(1, 0, 40) = 40", "set(1, 39, 11) = 11",
            "who(0, 1, 0, 39, 1, 39, 1) = 2", "who(0, 1, 0, 40, 1, 39, 1) = PLACE", "who(0, 1, 0, 39, 1, 40, 1) = PLACE");
    }

    private static void whoThatFits() {
        edges.of(28, "KINDS are bits 1 to 5: all of them, none", SMALL, "ints 0: 0", "ints 1: 3 1 7 0 2", "who(0, 0, 0, 0, 1, 0, 1) = 10",
            "who(0, 0, 0, 0, 1, 1, 1) = 0", "who(0, 0, 0, 0, 1, 2, 1) = 4", "who(0, 0, 0, 0, 1, 3, 1) = 16",
            "who(0, 0, 0, 0, 1, 4, 1) = 32",
            LEFT, "ints 0: 0", "ints 1: 1", "who(1, 0, 0, 0, 1, 0, 1) = 62");
        edges.of(28, "BRINGS are THINGS, bits: of 3, of 8", SMALL, "ints 0: 0", "ints 1: 1 3 5 7", "who(0, 1, 0, 0, 1, 0, 1) = 1",
            "who(0, 1, 0, 0, 1, 1, 1) = 2", "who(0, 1, 0, 0, 1, 2, 1) = 4", "who(0, 1, 0, 0, 1, 3, 1) = 0",
            "court j8,0,1;d0;r0,1; = 1", "who(0, 1, 0, 0, 1, 0, 1) = 255");
        edges.of(28, "TAKES are OTHERS, bits: of 3, of 8", SMALL, "ints 0: 0", "ints 1: 3 1", "who(0, 2, 0, 0, 1, 0, 1) = 7",
            "who(0, 2, 0, 0, 1, 1, 1) = 0", "court j8,0,1;d0;r0,0; = 1", "who(0, 2, 0, 0, 1, 1, 1) = 254");
        edges.of(28, "cheese may bring the last THING, and 0", "court j3,0,1;d1;c1,0; = 1", "ints 0: 0", "ints 1: 7",
            "who(0, 1, 0, 0, 1, 0, 1) = 4");
        edges.of(28, "a HUM that was not hummed: all, if it is so; none, if not", COURT, HUMS, DREAMS, "ints 2: 11 7 7",
            "who(1, 0, 0, 0, 1, 0, 3) = 62", "who(1, 1, 0, 0, 1, 0, 3) = 63", "who(1, 2, 0, 0, 1, 0, 3) = 63",
            "who(1, 0, 0, 0, 2, 0, 3) = 0", "who(1, 1, 0, 0, 2, 0, 3) = 0", "who(1, 2, 0, 0, 2, 0, 3) = 0");
        edges.of(28, "a HUM that was hummed twice must fit twice", "court j3,0,1;d0;t1,0;f0,1; = 2", "ints 0: 0 1 0", "ints 1: 3 1 3",
            "who(0, 0, 0, 0, 1, 0, 3) = 10", "ints 1: 3 1 7", "who(0, 0, 0, 0, 1, 0, 3) = 0");
    }

    private static void whoAtTheEdges() {
        edges.of(28, "each DREAM must fit, the first and the last, too", COURT, HUMS, "ints 1: 10 7 6", "ints 2: 11 7 4", "ints 3: 11 6 6",
            "who(3, 0, 0, 0, 1, 0, 3) = 0", "who(3, 0, 0, 0, 2, 0, 3) = 0", "who(3, 0, 0, 0, 3, 0, 3) = 0",
            "who(3, 0, 0, 0, 2, 0, 2) = 62");
        edges.of(28, "a number that is no DREAM fits nothing", SMALL, "ints 0: 0", "ints 1: -1 8 11 2147483647 -2147483648",
            "who(0, 0, 0, 0, 1, 0, 1) = 0", "who(0, 1, 0, 0, 1, 1, 1) = 0", "who(0, 2, 0, 0, 1, 2, 1) = 0",
            "who(0, 1, 0, 0, 1, 3, 1) = 0", "who(0, 1, 0, 0, 1, 4, 1) = 0", "status() = 0");
        edges.of(28, "ITEMS outside are not looked at", COURT, "ints 0: 9 0 9", "ints 1: -5 11 -5", "who(0, 1, 0, 1, 1, 1, 1) = 2");
        edges.of(28, "from now on, as the others are learnt", COURT, HUMS, DREAMS, "who(0, 1, 0, 0, 1, 0, 3) = 2", "hum(0) = 11",
            "who(0, 1, 0, 0, 1, 0, 3) = 11",
            "undo() = 0", "learn(3, 5) = 0", "learn(4, 5) = 2", "who(0, 0, 0, 0, 1, 0, 3) = 0", "who(4, 1, 0, 0, 1, 0, 3) = 4");
    }

    private static void beganOfNumbers() {
        edges.of(29, "STATE: no COURT, ahead of BAD and of FINDINGS", "began(0, 0, 0, 1, 0, 1) = STATE", "began(2, 0, 0, 1, 0, 1) = STATE",
            "began(0, 8, 0, 1, 0, 1) = STATE", "began(0, 0, 0, -1, 0, 1) = STATE", "began(0, 0, 0, 1, 0, 0) = STATE",
            "began(0, 0, 0, 1, 0, 13) = STATE", HUMS, DREAMS, "began(0, 0, 0, 1, 0, 3) = STATE");
        edges.of(29, "what is 0 or 1", COURT, HUMS, DREAMS, "began(0, 0, 0, 1, 0, 3) = 2", "began(1, 0, 0, 1, 0, 3) = 9",
            "began(2, 0, 0, 1, 0, 3) = BAD", "began(-1, 0, 0, 1, 0, 3) = BAD", "began(MOST, 0, 0, 1, 0, 3) = BAD",
            "began(LEAST, 0, 0, 1, 0, 3) = BAD");
        edges.of(29, "ROWS are 0 .. 7, both", LEFT, "ints 0: 0", "ints 7: 200", "began(1, 0, 0, 7, 0, 1) = 200", "ints 7: 0", "ints 0: 9",
            "began(1, 7, 0, 0, 0, 1) = 9", "began(0, -1, 0, 0, 0, 1) = BAD", "began(0, 8, 0, 0, 0, 1) = BAD",
            "began(0, 7, 0, -1, 0, 1) = BAD", "began(0, 7, 0, 8, 0, 1) = BAD");
        edges.of(29, "n is 1 to 12", LEFT, "ints 0: 0 0 0 0 0 0 0 0 0 0 0 1 0", "ints 1: 6 6 6 6 6 6 6 6 6 6 6 6 6",
            "began(1, 0, 0, 1, 0, 12) = 6", "began(1, 0, 0, 1, 0, 1) = 6", "began(0, 0, 11, 1, 0, 1) = 2", "began(0, 0, 0, 1, 0, 0) = BAD",
            "began(0, 0, 0, 1, 0, 13) = BAD", "began(0, 0, 0, 1, 0, -1) = BAD", "began(0, 0, 0, 1, 0, MOST) = BAD");
        edges.of(29, "BAD comes ahead of NULL", COURT, "began(2, 0, 0, 1, 0, 1) = BAD", "began(0, 0, 0, 8, 0, 1) = BAD",
            "began(0, 0, 0, 1, 0, 13) = BAD");
    }

    private static void beganOfFindings() {
        edges.of(29, "NULL, then PLACE of the HUMS' ROW", COURT, DREAMS, "began(0, 0, 0, 1, 0, 1) = NULL",
            "began(0, 0, -1, 2, 0, 1) = NULL",
            HUMS, "began(0, 0, -1, 1, 0, 1) = PLACE", "began(0, 0, 1, 1, 0, 3) = PLACE", "began(0, 0, 3, 1, 0, 1) = PLACE",
            "began(0, 0, MOST, 1, 0, 1) = PLACE", "began(0, 0, 3, 2, 0, 1) = PLACE");
        edges.of(29, "KIND, behind its PLACE and ahead of the other one's NULL and PLACE", COURT, "ints 0: 0 5 -1", DREAMS,
            "began(0, 0, 0, 1, 0, 2) = KIND", "began(0, 0, 2, 1, 0, 1) = KIND", "began(0, 0, 1, 2, 0, 1) = KIND",
            "began(0, 0, 1, 1, 9, 1) = KIND", "began(0, 0, 1, 1, 0, 3) = PLACE", "began(0, 0, 0, 1, 0, 1) = 2");
        edges.of(29, "NULL, then PLACE of the other one", COURT, HUMS, "began(0, 0, 0, 1, 0, 1) = NULL", "began(0, 0, 0, 1, -1, 1) = NULL",
            DREAMS, "began(0, 0, 0, 1, -1, 1) = PLACE", "began(0, 0, 0, 1, 1, 3) = PLACE", "began(0, 0, 0, 1, 3, 1) = PLACE",
            "began(0, 0, 0, 1, LEAST, 1) = PLACE", "began(0, 0, 0, 1, 0, 3) = 2");
    }

    private static void beganThatFits() {
        edges.of(29, "NONE: by no DREAM it is so", COURT, HUMS, "ints 1: 11 7 7", "began(0, 0, 0, 1, 0, 3) = 0",
            "began(1, 0, 0, 1, 0, 3) = NONE",
            "status() = 0");
        edges.of(29, "nothing dreamt may be the least", SMALL, "ints 0: 0", "ints 1: 2", "began(0, 0, 0, 1, 0, 1) = 2",
            "began(1, 0, 0, 1, 0, 1) = 0");
        edges.of(29, "nothing dreamt alone", LEFT, "ints 0: 0", "ints 1: 0", "began(0, 0, 0, 1, 0, 1) = 1", "began(1, 0, 0, 1, 0, 1) = 0");
        edges.of(29, "all 8 THINGS, and a number behind", LEFT, "ints 0: 0", "ints 1: 255 256 -1", "began(0, 0, 0, 1, 0, 1) = 1",
            "began(1, 0, 0, 1, 0, 1) = 255", "began(0, 0, 0, 1, 1, 1) = 0", "began(1, 0, 0, 1, 1, 1) = NONE", "began(0, 0, 0, 1, 2, 1) = 0",
            "began(1, 0, 0, 1, 2, 1) = NONE");
        edges.of(29, "all 3 THINGS, and a number behind", "court j3,0,1;d0;s0,0; = 1", "ints 0: 0", "ints 1: 7 8",
            "began(1, 0, 0, 1, 0, 1) = 7", "began(0, 0, 0, 1, 1, 1) = 0", "began(1, 0, 0, 1, 1, 1) = NONE");
        edges.of(29, "whatever is dreamt now", LEFT, "ints 0: 0", "ints 1: 6", "began(1, 0, 0, 1, 0, 1) = 6", "forget(0) = 0",
            "began(1, 0, 0, 1, 0, 1) = 6");
        edges.of(29, "the same ROW tells both", LEFT, "ints 0: 1 1", "began(0, 0, 0, 0, 1, 1) = 0", "ints 0: 1 2",
            "began(0, 0, 0, 0, 1, 1) = 2",
            "ints 0: 0", "began(1, 0, 0, 0, 0, 1) = 0");
        edges.of(29, "four DREAMS by cheese", "court j3,0,1;d0;c2,0; = 1", "ints 0: 0", "ints 1: 7", "began(0, 0, 0, 1, 0, 1) = 4",
            "began(1, 0, 0, 1, 0, 1) = 2");
    }

    private static void snoredOfNumbers() {
        edges.of(30, "STATE: no COURT, ahead of BAD and of FINDINGS", "snored(0, 0, 0, 1) = STATE", "snored(-1, 0, 0, 1) = STATE",
            "snored(256, 0, 0, 1) = STATE", "snored(0, 8, 0, 1) = STATE", "snored(0, 0, 0, 0) = STATE", "snored(0, 0, 0, 13) = STATE", HUMS,
            "snored(0, 0, 0, 1) = STATE");
        edges.of(30, "a DREAM is of the THINGS told alone", COURT, HUMS, "snored(6, 0, 0, 3) = 4096", "snored(0, 0, 0, 3) = 0",
            "snored(63, 0, 0, 3) = 0", "snored(64, 0, 0, 3) = BAD", "snored(-1, 0, 0, 3) = BAD", "snored(MOST, 0, 0, 3) = BAD",
            "snored(LEAST, 0, 0, 3) = BAD", "snored(70, 0, 0, 3) = BAD");
        edges.of(30, "a DREAM of 3 THINGS, and of 8", SMALL, "ints 0: 0", "snored(7, 0, 0, 1) = 0", "snored(8, 0, 0, 1) = BAD", LEFT,
            "snored(255, 0, 0, 1) = 0", "snored(256, 0, 0, 1) = BAD");
        edges.of(30, "ROWS are 0 .. 7", SMALL, "ints 0: 0", "ints 7: 0", "snored(3, 0, 0, 1) = 4096", "snored(1, 7, 0, 1) = 1",
            "snored(3, -1, 0, 1) = BAD", "snored(3, 8, 0, 1) = BAD", "snored(3, LEAST, 0, 1) = BAD");
        edges.of(30, "n is 1 to 12", SMALL, "row(0, 0, 13) = 13", "snored(3, 0, 0, 1) = 4096", "snored(3, 0, 0, 12) = 8191",
            "snored(3, 0, 0, 0) = BAD", "snored(3, 0, 0, 13) = BAD", "snored(3, 0, 0, -1) = BAD", "snored(3, 0, 0, MOST) = BAD");
    }

    private static void snoredOfFindings() {
        edges.of(30, "BAD comes ahead of NULL", COURT, "snored(64, 0, 0, 1) = BAD", "snored(0, 0, 0, 13) = BAD");
        edges.of(30, "NULL, then PLACE, then KIND", COURT, "snored(0, 0, -1, 1) = NULL", "ints 0: 0 5 -1", "snored(0, 0, -1, 2) = PLACE",
            "snored(0, 0, 1, 3) = PLACE", "snored(0, 0, 3, 1) = PLACE", "snored(0, 0, MOST, 12) = PLACE", "snored(0, 0, LEAST, 1) = PLACE",
            "snored(0, 0, 0, 2) = KIND", "snored(0, 0, 2, 1) = KIND", "snored(11, 0, 0, 1) = 4096", "row(1, 1, 0) = 0",
            "snored(0, 1, 0, 1) = PLACE");
    }

    private static void snoredPlaces() {
        edges.of(30, "the one HUM, not hummed", SMALL, "ints 0: 0", "snored(1, 0, 0, 1) = 1", "snored(3, 0, 0, 1) = 4096",
            "snored(0, 0, 0, 1) = 0", "hum(0) = 3", "snored(3, 0, 0, 1) = 4097");
        edges.of(30, "the first of three, the second, the last", COURT, HUMS, "snored(4, 0, 0, 3) = 1", "snored(10, 0, 0, 3) = 2",
            "snored(7, 0, 0, 3) = 4");
        edges.of(30, "the twelfth is bit 11; all the others, if it is so as it is", LEFT, "ints 0: 0 0 0 0 0 0 0 0 0 0 0 1",
            "snored(1, 0, 0, 12) = 2048", "snored(3, 0, 0, 12) = 6143");
        edges.of(30, "places are counted from i on", LEFT, "ints 0: 0 0 0 1", "snored(1, 0, 2, 2) = 2", "snored(1, 0, 3, 1) = 1");
        edges.of(30, "one HUM alone is not hummed, though it is there twice", "court j3,0,1;d0;t1,0;f0,1; = 2", "ints 0: 0 0 1",
            "snored(1, 0, 0, 3) = 4099", "snored(3, 0, 0, 3) = 4");
        edges.of(30, "ITEMS outside are not looked at", SMALL, "ints 0: 9 0 9", "snored(3, 0, 1, 1) = 4096");
    }

    private static void goneOfNumbers() {
        edges.of(31, "no COURT is BAD: there is no such CASE", "gone(0, 0, 0) = BAD", SMALL, "gone(0, 0, 0) = BAD");
        edges.of(31, "CASES are those told", COURT, "gone(2, 0, 0) = 1", "gone(3, 0, 0) = BAD", "gone(-1, 0, 0) = BAD",
            "gone(MOST, 0, 0) = BAD", "gone(LEAST, 0, 0) = BAD");
        edges.of(31, "p is 0 to 10", COURT, "gone(2, 0, 0) = 1", "gone(2, 0, 1) = 1", "gone(2, 10, 0) = 0", "gone(2, 10, 1) = 1",
            "gone(2, -1, 0) = BAD", "gone(2, 11, 0) = BAD", "gone(2, MOST, 1) = BAD", "gone(2, LEAST, 1) = BAD");
        edges.of(31, "what is 0 or 1", COURT, "gone(2, 3, 0) = 7", "gone(2, 3, 1) = 10", "gone(2, 3, 2) = BAD", "gone(2, 3, -1) = BAD",
            "gone(2, 3, MOST) = BAD", "gone(2, 3, LEAST) = BAD");
    }

    private static void goneInLowestTerms() {
        // FREE, if 0 is forgotten, and 1 or 2 is not.
        String court = "court j8,0,1;d0,1,2,3,4,5,6,7;f1,2;v0,0,1; = 1";
        edges.of(31, "0 is 0 by 1", court, "gone(0, 0, 0) = 0", "gone(0, 0, 1) = 1", "gone(0, 10, 0) = 0", "gone(0, 10, 1) = 1");
        edges.of(31, "lowest terms, of all 8 THINGS", court, "gone(0, 1, 0) = 99", "gone(0, 1, 1) = 1000", "gone(0, 3, 0) = 273",
            "gone(0, 3, 1) = 1000", "gone(0, 5, 0) = 3", "gone(0, 5, 1) = 8", "gone(0, 9, 0) = 171", "gone(0, 9, 1) = 1000",
            "gone(0, 2, 0) = 24", "gone(0, 2, 1) = 125");
        edges.of(31, "1 is 1 by 1, of all 8 THINGS", "court j8,0,1;d0,1,2,3,4,5,6;t1,1;v0,7,1; = 1", "gone(0, 0, 0) = 1",
            "gone(0, 0, 1) = 1",
            "gone(0, 3, 0) = 1", "gone(0, 3, 1) = 1", "gone(0, 10, 0) = 1", "gone(0, 10, 1) = 1", "gone(0, 11, 0) = BAD",
            "gone(0, -1, 0) = BAD");
    }

    private static void goneByWhatIsDreamt() {
        edges.of(31, "nothing is dreamt: nothing is forgotten", SMALL.replace("; = 1", ";v0,0,1;v0,0,2; = 1"), "forget(0) = 0",
            "gone(0, 7, 0) = 1", "gone(0, 7, 1) = 1", "gone(1, 7, 0) = 0", "gone(1, 7, 1) = 1");
        edges.of(31, "by p of 0 as it is now, by p of 10 as if nothing was dreamt", "court j4,0,1;d0;t1,1;v0,0,1; = 1", "gone(0, 0, 0) = 0",
            "gone(0, 0, 1) = 1", "gone(0, 10, 0) = 1", "gone(0, 10, 1) = 1", "gone(0, 4, 0) = 2", "gone(0, 4, 1) = 5");
        edges.of(31, "THINGS apart: one kept, one forgotten", "court j4,0,1;d0,1;r3,3;v0,0,1; = 1", "gone(0, 3, 0) = 21",
            "gone(0, 3, 1) = 100", "gone(0, 5, 0) = 1", "gone(0, 5, 1) = 4");
        edges.of(31, "OPEN or not", "court j4,4,1;d0,1;r3,3;v0,0,1; = 1", "hear(0) = 2", "gone(0, 3, 0) = 21", "appeal(0) = 0",
            "gone(0, 3, 0) = 21", "forget(0) = 2", "gone(0, 3, 0) = 7", "gone(0, 3, 1) = 10");
        edges.of(31, "forgotten ahead of the PLEA, which may bring it again", "court j4,0,1;d1;t1,1;v0,0,1; = 1", "gone(0, 10, 0) = 1");
        edges.of(31, "steps need what is forgotten", "court j8,0,1;d0,1;s7,1;v0,7,0; = 1", "gone(0, 1, 0) = 9", "gone(0, 1, 1) = 100");
    }

    private static void drawnOfNumbers() {
        edges.of(32, "STATE: no COURT, ahead of BAD", "drawn(0, 1, 0) = STATE", "drawn(-1, 1, 0) = STATE", "drawn(61, 1, 0) = STATE",
            "drawn(0, 0, 0) = STATE", "drawn(0, 1000000, 0) = STATE", "drawn(0, 1, 2) = STATE");
        edges.of(32, "n is 0 to 60", TUNES, "drawn(0, 1, 1) = 128", "drawn(60, 1, 1) = 191", "drawn(-1, 1, 1) = BAD",
            "drawn(61, 1, 1) = BAD",
            "drawn(MOST, 1, 1) = BAD", "drawn(LEAST, 1, 1) = BAD");
        edges.of(32, "a SEED is 1 to 999999", TUNES, "drawn(1, 1, 1) = 130", "drawn(1, 999999, 1) = 132", "drawn(1, 0, 1) = BAD",
            "drawn(1, 1000000, 1) = BAD", "drawn(1, -1, 1) = BAD", "drawn(1, MOST, 1) = BAD", "drawn(1, LEAST, 1) = BAD",
            "drawn(0, 0, 1) = BAD");
        edges.of(32, "what is 0 or 1", TUNES, "drawn(1, 1, 0) = 0", "drawn(1, 1, 1) = 130", "drawn(1, 1, 2) = BAD", "drawn(1, 1, -1) = BAD",
            "drawn(1, 1, MOST) = BAD", "drawn(1, 1, LEAST) = BAD");
        edges.of(32, "no terms: as it is now", COURT, "hear(2) = 1", "drawn(0, 5, 0) = 1", "drawn(0, 5, 1) = 5");
    }

    private static void drawnNumbersWrap() {
        // X is 16807, 282475249, 1622650073, 984943658, 1144108930, 470211272, 101027544: by 6 they leave 1 1 5 2 4 2 0.
        edges.of(32, "the rest by 2147483647, of a product beyond an int", TUNES, "drawn(1, 1, 1) = 130", "drawn(2, 1, 1) = 130",
            "drawn(3, 1, 1) = 162", "drawn(4, 1, 1) = 166", "drawn(5, 1, 1) = 182", "drawn(6, 1, 1) = 182", "drawn(7, 1, 1) = 183");
        // 999999 times 16807 is 16806983193, which leaves 1774597664, and that leaves 2 by 6 and 0 by 4.
        edges.of(32, "the first draw of the greatest SEED", TUNES, "drawn(1, 999999, 1) = 132",
            "court j8,8,1;d7;t0,0;t1,0;t2,0;t3,0;t4,0;t5,0;v3,0,3;v4,0,4;v5,0,5; = 6", "drawn(1, 999999, 1) = 160",
            "drawn(1, 999999, 0) = 1");
    }

    private static void drawnTerms() {
        edges.of(32, "no CASES: what leaves 0 by 4 is hummed, too", TUNES.replace("t2,0", "t2,6"), "drawn(5, 1, 1) = 182",
            "drawn(6, 1, 0) = 0");
        // The sixth X leaves 0 by 4: the one CASE is HEARD, and the DREAM wears.
        edges.of(32, "a CASE is HEARD: VERDICT and wear", "court j3,1,1;d0;t2,0;v0,1,0; = 1", "drawn(5, 1, 1) = 5", "drawn(5, 1, 0) = 0",
            "drawn(6, 1, 1) = 1", "drawn(6, 1, 0) = 1");
        // So does the seventh: the CASE is no more OPEN, so its PLEA is not hummed, and nothing wears.
        edges.of(32, "a CASE that is not OPEN: nothing is done", "court j3,1,1;d0;t2,0;v0,1,0; = 1", "drawn(7, 1, 1) = 1",
            "drawn(7, 1, 0) = 1", "drawn(8, 1, 1) = 5");
        edges.of(32, "a CASE that is not OPEN now is not HEARD", "court j3,1,1;d0;t2,0;v0,1,0; = 1", "hear(0) = 1", "drawn(5, 1, 1) = 5",
            "drawn(6, 1, 1) = 5", "drawn(6, 1, 0) = 1");
        edges.of(32, "a CASE that stays OPEN is HEARD again", "court j3,1,1;d1;t2,0;v0,0,2; = 1", "drawn(5, 1, 1) = 6",
            "drawn(6, 1, 0) = 1",
            "court j3,0,1;d1;r0,1;v0,0,2; = 1", "drawn(6, 1, 0) = 0", "drawn(7, 1, 0) = 0", "drawn(7, 1, 1) = 0");
        edges.of(32, "a GUILTY CASE, for good or not, is not HEARD", "court j3,1,1;d0;t2,0;v0,0,1; = 1", "hear(0) = 2",
            "drawn(5, 1, 1) = 5", "drawn(6, 1, 1) = 5", "drawn(6, 1, 0) = 0", "appeal(0) = 0", "drawn(6, 1, 1) = 5", "drawn(6, 1, 0) = 0");
        edges.of(32, "GUILTY ones are not FREE", "court j3,1,1;d0;t2,0;v0,0,1; = 1", "drawn(60, 1, 0) = 0", "drawn(6, 1, 1) = 1");
        edges.of(32, "HUMS are hummed whatever the NIGHT, and nothing changes", "court j8,0,1;d7;t0,0;t1,0;t2,0;t3,0;t4,0;t5,0; = 6",
            "hum(0) = 129", "hum(1) = FULL", "drawn(7, 1, 1) = 183", "stand(0) = 129", "stand(1) = 1", "count(6) = 1");
        edges.of(32, "one HUM: the rest by 1 is 0", SMALL, "drawn(1, 1, 1) = 3", "drawn(60, 999999, 1) = 3");
    }

    private static void imagesOfNumbers() {
        edges.of(33, "IMAGES are 0 and 1", COURT, "image(0) = 1", "image(1) = 1", "image(2) = BAD", "image(-1) = BAD", "image(MOST) = BAD",
            "image(LEAST) = BAD");
        edges.of(33, "STATE: no COURT, behind BAD", "image(0) = STATE", "image(1) = STATE", "image(2) = BAD", "image(-1) = BAD",
            "restore(0) = STATE");
        edges.of(34, "IMAGES are 0 and 1", COURT, "image(0) = 1", "image(1) = 1", "restore(0) = 1", "restore(1) = 1", "restore(2) = BAD",
            "restore(-1) = BAD", "restore(MOST) = BAD", "restore(LEAST) = BAD");
        edges.of(34, "STATE: none was kept, behind BAD", "restore(0) = STATE", "restore(1) = STATE", "restore(2) = BAD",
            "restore(-1) = BAD",
            COURT, "restore(0) = STATE", "restore(1) = STATE");
        edges.of(34, "STATE: the other one was kept", COURT, "image(0) = 1", "restore(1) = STATE", "image(1) = 1", "restore(1) = 1", SMALL,
            "restore(0) = 1", "count(2) = 5");
        edges.of(34, "STATE: the first was not kept", COURT, "image(1) = 1", "hum(0) = 11", "restore(0) = STATE", "stand(0) = 11",
            "restore(1) = 1", "stand(0) = 9");
    }

    private static void imagesKeepAll() {
        String court = "court j4,4,9;d0,1;t0,0;t1,1;r2,2;v2,0,1;v2,3,0;v2,3,2;v2,0,3; = 3";
        edges.of(33, "DREAM, what was hummed, NIGHT, CASES and THINGS are kept", court, "hear(0) = 2", "hear(1) = 1", "hear(3) = 2",
            "appeal(3) = 0", "learn(1, 2) = 1", "hum(1) = 7", "image(1) = 1", court, "restore(1) = 1", "stand(0) = 7", "stand(1) = 1",
            "stand(2) = 4", "stand(3) = 2", "stand(4) = 9", "ofCase(3, 3) = 3", "ofCase(0, 3) = 2", "count(4) = 3", "ofHum(1, 0) = 2",
            "ofHum(1, 1) = 1");
        edges.of(33, "what is done behind it does not change it", COURT, "image(0) = 1", "hum(0) = 11", "learn(0, 5) = 1", "hear(2) = 2",
            "restore(0) = 1", "stand(0) = 9", "stand(1) = 0", "stand(2) = 7", "ofHum(0, 0) = 1", "count(4) = 0");
        edges.of(33, "an IMAGE is kept in place of the one before", COURT, "image(0) = 1", "hum(0) = 11", "image(0) = 1", "undo() = 0",
            "restore(0) = 1", "stand(0) = 11", "stand(1) = 1");
        edges.of(33, "two IMAGES are apart", COURT, "image(0) = 1", "hum(0) = 11", "image(1) = 1", "restore(0) = 1", "stand(0) = 9",
            "restore(1) = 1", "stand(0) = 11");
        edges.of(34, "an IMAGE can be restored again, whatever is done between", COURT, "image(0) = 1", "restore(0) = 1", "hum(0) = 11",
            "learn(3, 4) = 0", "restore(0) = 1", "stand(0) = 9", "ofHum(3, 0) = 0", "stand(1) = 0");
        edges.of(34, "NIGHT and CASES are as they were kept", COURT, "image(0) = 1", "hear(2) = 1", "image(1) = 1", "hear(0) = 1",
            "hum(0) = 3", "restore(0) = 1", "stand(1) = 0", "stand(2) = 7", "stand(3) = 0", "ofCase(2, 3) = 0", "count(4) = 0",
            "restore(1) = 1", "stand(1) = 0", "stand(2) = 3", "stand(3) = 4", "count(4) = 1");
        edges.of(34, "the law of another COURT is restored: THINGS, WEARS, HUMS of a NIGHT", "court j5,1,2;d0,1,4;r3,3;v0,3,0; = 1",
            "image(0) = 1", "court j8,8,9;d7;t0,0;t1,1; = 2", "restore(0) = 1", "count(1) = 5", "count(2) = 1", "count(3) = 1",
            "forget(5) = BAD", "hum(1) = BAD", "hum(0) = 19", "hum(0) = 19", "hum(0) = FULL", "hear(0) = 1", "stand(0) = 1");
    }

    private static void imagesLeaveTheRest() {
        edges.of(33, "nothing but the IMAGE is changed by it", COURT, "hum(0) = 11", "image(0) = 1", "count(6) = 1", "stand(0) = 11",
            "undo() = 0", "stand(0) = 9");
        edges.of(34, "no ACT can be undone then", COURT, "image(0) = 1", "hum(0) = 11", "hum(1) = 43", "restore(0) = 1", "count(6) = 0",
            "undo() = STATE", "stand(0) = 9");
        edges.of(34, "no ACT that was done ahead of the IMAGE can be undone then", COURT, "hum(0) = 11", "image(0) = 1", "restore(0) = 1",
            "count(6) = 0", "undo() = STATE", "stand(0) = 11");
        edges.of(34, "ROWS, the tape, THE TRACE and the latest FAULT stay", COURT, "image(0) = 1", "court j = fault 1 at 1", "ints 0: 1",
            "ask(3, 0) = -100", "tape j3", "restore(0) = 1", "fault() = 1", "trace(0) = 13", "trace(1) = 10", "count(7) = 2",
            "count(0) = 1", "sleep(0, 0, 1) = 41");
        edges.of(34, "what is refused leaves the ACTS", COURT, "hum(0) = 11", "restore(0) = STATE", "restore(2) = BAD", "image(2) = BAD",
            "undo() = 0", "stand(0) = 9");
        edges.of(33, "IMAGES outlast another COURT, and a FAULT", COURT, "image(1) = 1", SMALL, "court j = fault 1 at 1", "restore(1) = 1",
            "count(2) = 5");
    }
}
