/** The boundary cases of what is foretold: promises 18 to 27, with part 3 of the Terms. */
public final class EdgesOfForetellingTest {
    private static final String COURT = "court j6,2,3;d0,3;t1,0;c5,2;s4,1;r0,0;f2,3;v0,3,1;v3,5,4;v4,1,2; = 5";
    private static final String SMALL = "court j3,0,1;d0;t1,0; = 1";
    /** A tune brings THING 0, feathers carry a THING on by one place each: as many HUMS as wanted to some DREAMS. */
    private static final String CHAIN = "court j8,0,1;d0;t0,0;f1,0;f2,1;f3,2;f4,3;f5,4; = 6";
    /** A CASE that is FREE behind seven HUMS, and not behind fewer. */
    private static final String SEVEN = "court j8,0,1;d0;s4,3;t7,3;f3,1;f1,7;f7,3;s2,4;v4,7,2; = 6";
    private static final Edges edges = new Edges();

    public static void main(String[] args) {
        rowsThatSleepTakes();
        placesThatSleepTakes();
        humsThatSleepTakes();
        dreamsBehindHums();
        dreamsBehindEight();
        leastOfThings();
        leastOfNumbers();
        leastUpTo12();
        leastInTheFirstRow();
        saveOfNumbers();
        saveByTheFewest();
        canOfNumbers();
        canBehindFewer();
        orderOfNumbers();
        orderOfSeveral();
        theFirst();
        casesThatClash();
        humsThatAreDeaf();
        humsThatAreTheSame();
        edges.end(18, 19, 20, 21, 22, 23, 24, 25, 26, 27);
    }

    private static void rowsThatSleepTakes() {
        edges.of(18, "STATE: no COURT, ahead of BAD and of FINDINGS", "sleep(0, 0, 1) = STATE", "sleep(8, 0, 1) = STATE",
            "sleep(-1, 0, 1) = STATE", "sleep(0, 0, 0) = STATE", "sleep(0, 0, 13) = STATE", "ints 0: 0", "sleep(0, 0, 1) = STATE",
            "sleep(0, 5, 1) = STATE");
        edges.of(18, "ROWS are 0 .. 7", COURT, "ints 0: 0", "ints 7: 1", "sleep(0, 0, 1) = 11", "sleep(7, 0, 1) = 41",
            "sleep(-1, 0, 1) = BAD", "sleep(8, 0, 1) = BAD", "sleep(MOST, 0, 1) = BAD", "sleep(LEAST, 0, 1) = BAD");
        edges.of(18, "n is 1 to 12", COURT, "ints 0: 3 3 3 3 3 3 3 3 3 3 3 0 1", "sleep(0, 0, 1) = 8", "sleep(0, 0, 12) = 10",
            "sleep(0, 1, 12) = 43", "sleep(0, 0, 0) = BAD", "sleep(0, 0, 13) = BAD", "sleep(0, 0, -1) = BAD",
            "sleep(0, 0, MOST) = BAD", "sleep(0, 0, LEAST) = BAD");
        edges.of(18, "BAD comes ahead of NULL and PLACE", COURT, "sleep(0, 0, 0) = BAD", "sleep(0, -1, 13) = BAD", "ints 0: 9",
            "sleep(0, 0, 13) = BAD");
        edges.of(18, "HUMS as many as wanted, whatever the NIGHT", "court j3,0,1;d0;t1,0;t2,0; = 2", "hum(0) = 3", "hum(1) = FULL",
            "ints 0: 1 0 1", "sleep(0, 0, 3) = 7", "stand(0) = 3", "stand(1) = 1");
        edges.of(18, "ROWS of any LANE", COURT, "bytes 0: 0 4", "shorts 1: 0 4", "ints 2: 0 4", "sleep(0, 0, 2) = 7",
            "sleep(1, 0, 2) = 7", "sleep(2, 0, 2) = 7");
    }

    private static void placesThatSleepTakes() {
        edges.of(18, "NULL: a ROW that is missing, ahead of PLACE", COURT, "sleep(0, 0, 1) = NULL", "sleep(7, -1, 12) = NULL",
            "sleep(0, MOST, 1) = NULL");
        edges.of(18, "PLACE: from the first place to the last", COURT, "ints 0: 3 4 0", "sleep(0, 0, 3) = 6", "sleep(0, 2, 1) = 11",
            "sleep(0, -1, 1) = PLACE", "sleep(0, 3, 1) = PLACE", "sleep(0, 2, 2) = PLACE", "sleep(0, 0, 4) = PLACE",
            "sleep(0, 1, 3) = PLACE", "sleep(0, MOST, 12) = PLACE", "sleep(0, LEAST, 1) = PLACE");
        edges.of(18, "PLACE: a ROW of none", COURT, "row(0, 2, 0) = 0", "sleep(0, 0, 1) = PLACE");
        edges.of(18, "PLACE: the last of 40", COURT, "row(0, 0, 40) = 40", "sleep(0, 39, 1) = 11", "sleep(0, 40, 1) = PLACE",
            "sleep(0, 28, 12) = 11", "sleep(0, 29, 12) = PLACE");
        edges.of(18, "PLACE comes ahead of KIND", COURT, "ints 0: 9 9", "sleep(0, 0, 3) = PLACE", "sleep(0, 0, 2) = KIND",
            "sleep(0, -1, 2) = PLACE");
    }

    private static void humsThatSleepTakes() {
        edges.of(18, "KIND: an ITEM is no HUM", COURT, "ints 0: 4 5 -1 2147483647 -2147483648", "sleep(0, 0, 1) = 5",
            "sleep(0, 1, 1) = KIND", "sleep(0, 2, 1) = KIND", "sleep(0, 3, 1) = KIND", "sleep(0, 4, 1) = KIND");
        edges.of(18, "KIND: the first, one between, the last", COURT, "ints 0: 5 0 5 1 5", "sleep(0, 0, 2) = KIND",
            "sleep(0, 1, 3) = KIND", "sleep(0, 3, 2) = KIND", "sleep(0, 1, 1) = 11", "sleep(0, 3, 1) = 41");
        edges.of(18, "ITEMS ahead of i and behind the n-th are not looked at", COURT, "ints 0: 5 0 4 5", "sleep(0, 1, 2) = 7",
            "status() = 0");
        edges.of(18, "HUMS are those of the COURT that stands", COURT, "ints 0: 1", "sleep(0, 0, 1) = 41", SMALL,
            "sleep(0, 0, 1) = KIND", "set(0, 0, 0) = 0", "sleep(0, 0, 1) = 3");
        edges.of(18, "six HUMS", CHAIN, "ints 0: 1 2 3 4 5 6", "sleep(0, 0, 5) = 32", "sleep(0, 5, 1) = KIND");
        edges.of(18, "as the HUMS are learnt now, from the DREAM now", COURT, "forget(3) = 1", "learn(0, 2) = 1", "ints 0: 0 3",
            "sleep(0, 0, 2) = 4");
    }

    private static void dreamsBehindHums() {
        edges.of(19, "STATE: no COURT, ahead of BAD", "dreams(0, 0) = STATE", "dreams(-1, 0) = STATE", "dreams(9, 0) = STATE",
            "dreams(0, 5) = STATE", "dreams(0, -1) = STATE");
        edges.of(19, "n is 0 to 8", COURT, "dreams(0, 0) = 1", "dreams(-1, 0) = BAD", "dreams(9, 0) = BAD", "dreams(MOST, 0) = BAD",
            "dreams(LEAST, 0) = BAD", "dreams(8, 2) = 63");
        edges.of(19, "what is 0 to 4", COURT, "dreams(1, 0) = 5", "dreams(1, 1) = 0", "dreams(1, 2) = 47", "dreams(1, 3) = 5",
            "dreams(1, 4) = 41", "dreams(1, 5) = BAD", "dreams(1, -1) = BAD", "dreams(1, MOST) = BAD", "dreams(1, LEAST) = BAD");
        edges.of(19, "behind none: the DREAM that there is", COURT, "dreams(0, 0) = 1", "dreams(0, 1) = 9", "dreams(0, 2) = 9",
            "dreams(0, 3) = 9", "dreams(0, 4) = 9");
        edges.of(19, "behind n, not behind fewer", SMALL, "dreams(1, 0) = 1", "dreams(1, 1) = 3", "dreams(1, 3) = 3",
            "dreams(2, 0) = 1", "dreams(2, 4) = 3");
        edges.of(19, "unlike ones are counted once", "court j3,0,1;d0;t1,0;t1,2;c0,0; = 3", "dreams(1, 0) = 1", "dreams(8, 0) = 1");
        edges.of(19, "nothing dreamt is a DREAM, too", "court j3,0,1;d0;r0,0;t1,0; = 2", "dreams(1, 0) = 2", "dreams(1, 3) = 0",
            "dreams(1, 1) = 0", "dreams(1, 4) = 3", "forget(0) = 0", "dreams(0, 0) = 1", "dreams(0, 1) = 0", "dreams(0, 2) = 0",
            "dreams(0, 3) = 0", "dreams(0, 4) = 0");
        edges.of(19, "HUMS lead on from nothing dreamt", "court j3,0,1;d0;r0,0;t1,0; = 2", "dreams(2, 0) = 3", "dreams(2, 3) = 0",
            "dreams(2, 4) = 3", "forget(0) = 0", "dreams(1, 0) = 2", "dreams(1, 2) = 2", "dreams(1, 4) = 2");
        edges.of(19, "each of these is asked by itself", COURT, "dreams(1, 1) = 0", "dreams(0, 2) = 9", "dreams(1, 3) = 5",
            "dreams(0, 4) = 9",
            "dreams(1, 2) = 47", "dreams(0, 1) = 9", "dreams(1, 4) = 41", "dreams(0, 3) = 9", "dreams(1, 0) = 5", "dreams(0, 0) = 1");
        edges.of(19, "all 8 THINGS", "court j8,0,1;d0,1,2,3,4,5,6,7;t0,0; = 1", "dreams(8, 0) = 1", "dreams(8, 1) = 255",
            "dreams(8, 2) = 255", "dreams(8, 3) = 255", "dreams(8, 4) = 255");
    }

    private static void dreamsBehindEight() {
        // The first THING goes to 5 by five HUMS; with what is left another is brought, and carried on.
        edges.of(19, "the greatest behind 6, 7 and 8", CHAIN, "dreams(6, 4) = 33", "dreams(7, 4) = 34", "dreams(8, 4) = 36",
            "dreams(9, 4) = BAD");
        edges.of(19, "the one HUM that there is, hummed 8 times", "court j3,0,1;d0;f0,0; = 1", "dreams(8, 0) = 1", "dreams(8, 3) = 1");
        edges.of(19, "how many behind n: one more place by each", "court j8,0,1;d0;f1,0;f2,1;f3,2;f4,3;f5,4;f6,5; = 6",
            "dreams(0, 0) = 1", "dreams(1, 0) = 2", "dreams(5, 0) = 6", "dreams(6, 0) = 7", "dreams(8, 0) = 7", "dreams(8, 2) = 127");
    }

    private static void leastOfThings() {
        edges.of(20, "STATE: no COURT, ahead of BAD", "least(0, 0, -1) = STATE", "least(-1, 0, -1) = STATE", "least(0, 256, -1) = STATE",
            "least(0, 0, -2) = STATE");
        edges.of(20, "THINGS of 3, as bits: those told alone", SMALL, "least(7, 0, -1) = NONE", "least(0, 7, -1) = NONE",
            "least(8, 0, -1) = BAD", "least(0, 8, -1) = BAD", "least(-1, 0, -1) = BAD", "least(0, -1, -1) = BAD",
            "least(MOST, 0, -1) = BAD", "least(0, LEAST, -1) = BAD", "least(9, 0, -1) = BAD", "least(0, 11, -1) = BAD");
        edges.of(20, "THINGS of 8, as bits", CHAIN, "least(255, 0, -1) = NONE", "least(0, 255, -1) = NONE", "least(256, 0, -1) = BAD",
            "least(0, 256, -1) = BAD", "least(1, 254, -1) = 0");
        edges.of(20, "none told: there already", COURT, "least(0, 0, -1) = 0", "least(0, 0, 0) = NONE");
        edges.of(20, "all of the ones, none of the others", COURT, "least(9, 54, -1) = 0", "least(1, 8, -1) = 1", "least(1, 8, 0) = 4",
            "least(0, 9, -1) = 2", "least(0, 9, 0) = 3", "least(0, 9, 1) = 4");
        edges.of(20, "NONE: both to be there and not", COURT, "least(1, 1, -1) = NONE", "least(1, 1, 0) = NONE",
            "least(63, 63, -1) = NONE");
        edges.of(20, "NONE: no HUMS lead there", SMALL, "least(4, 0, -1) = NONE", "least(4, 0, 0) = NONE", "least(0, 1, -1) = NONE");
    }

    private static void leastOfNumbers() {
        edges.of(20, "k is -1 at least", COURT, "least(4, 8, -1) = 1", "least(4, 8, -2) = BAD", "least(4, 8, LEAST) = BAD",
            "least(4, 8, 0) = 4", "least(4, 8, 1) = NONE", "least(4, 8, MOST) = NONE");
        edges.of(20, "k below -1 is BAD, though there is no such row", SMALL, "least(4, 0, -2) = BAD", "least(4, 0, 0) = NONE");
        edges.of(20, "the last of a row, and none behind it", COURT, "least(48, 1, -1) = 4", "least(48, 1, 0) = 0", "least(48, 1, 1) = 1",
            "least(48, 1, 2) = 2", "least(48, 1, 3) = 3", "least(48, 1, 4) = NONE");
    }

    private static void leastUpTo12() {
        // 5 and 4 more for 3, 2 for 1, 1 for 0.
        edges.of(20, "12 HUMS, and the row of them", CHAIN, "least(43, 0, -1) = 12", "least(43, 0, 0) = 1", "least(43, 0, 1) = 0",
            "least(43, 0, 2) = 2", "least(43, 0, 3) = 1", "least(43, 0, 4) = 0", "least(43, 0, 5) = 3", "least(43, 0, 6) = 2",
            "least(43, 0, 7) = 1", "least(43, 0, 8) = 0", "least(43, 0, 9) = 4", "least(43, 0, 10) = 3", "least(43, 0, 11) = 5",
            "least(43, 0, 12) = NONE");
        edges.of(20, "NONE: 13 HUMS, 12 behind the first of them", CHAIN, "least(51, 0, -1) = NONE", "least(51, 0, 0) = NONE",
            "hum(1) = 2", "least(51, 0, -1) = 12", "undo() = 0", "least(51, 0, -1) = NONE");
        edges.of(20, "11 HUMS", CHAIN, "least(49, 0, -1) = 11", "least(49, 0, 10) = 4", "least(49, 0, 11) = NONE");
    }

    private static void leastInTheFirstRow() {
        edges.of(20, "the first row, of two HUMS in any order", "court j3,0,1;d0;t2,0;t1,0; = 2", "least(7, 0, -1) = 2",
            "least(7, 0, 0) = 0", "least(7, 0, 1) = 1");
        edges.of(20, "the first row, of HUMS alike", "court j3,0,1;d0;r1,1;t1,0;t1,2;c1,0; = 4", "least(2, 0, -1) = 1",
            "least(2, 0, 0) = 1");
        edges.of(20, "the fewest, though a row with lesser numbers is longer", "court j4,0,1;d0;t1,0;t2,0;c1,0; = 3",
            "least(6, 0, -1) = 1", "least(6, 0, 0) = 2");
        edges.of(20, "whatever the NIGHT, from the DREAM now", "court j3,0,1;d0;t2,0;t1,0; = 2", "hum(0) = 5", "hum(1) = FULL",
            "least(7, 0, -1) = 1", "least(7, 0, 0) = 1");
    }

    private static void saveOfNumbers() {
        edges.of(21, "no COURT is BAD: there is no such CASE", "save(0, -1) = BAD", "save(0, -2) = BAD", SMALL, "save(0, -1) = BAD",
            "save(-1, -1) = BAD");
        edges.of(21, "CASES are those told", COURT, "save(2, -1) = 0", "save(3, -1) = BAD", "save(-1, -1) = BAD", "save(MOST, -1) = BAD",
            "save(LEAST, -1) = BAD");
        edges.of(21, "k is -1 at least", COURT, "save(1, -1) = 2", "save(1, -2) = BAD", "save(1, LEAST) = BAD", "save(1, 0) = 0",
            "save(1, 1) = 2", "save(1, 2) = NONE", "save(1, MOST) = NONE");
        edges.of(21, "no HUM is needed: no k-th", COURT, "save(2, -1) = 0", "save(2, 0) = NONE");
        edges.of(21, "NONE: never FREE", "court j3,0,1;d0;t1,0;v0,0,1; = 1", "save(0, -1) = NONE", "save(0, 0) = NONE",
            "save(0, -2) = BAD");
    }

    private static void saveByTheFewest() {
        edges.of(21, "seven HUMS, and the row of them", SEVEN, "save(0, -1) = 7", "save(0, 0) = 1", "save(0, 1) = 3", "save(0, 2) = 2",
            "save(0, 3) = 0", "save(0, 4) = 4", "save(0, 5) = 3", "save(0, 6) = 5", "save(0, 7) = NONE");
        edges.of(21, "its PLEA is not one of them", "court j3,0,1;d0;t1,0;t2,0;v0,2,1; = 2", "save(0, -1) = 0", "save(0, 0) = NONE");
        edges.of(21, "OPEN or not: FREE, GUILTY, and for good", "court j4,4,9;d0,1;r0,0;r2,2;v1,0,1;v1,2,1; = 2", "save(0, -1) = 1",
            "hear(0) = 2", "save(0, -1) = 1", "appeal(0) = 0", "save(0, -1) = 1", "save(0, 0) = 0", "hear(1) = 1", "save(1, -1) = 0");
        edges.of(21, "the first row of several", "court j4,0,1;d0;r1,1;f1,0;f2,0;v0,0,3;v0,0,2;v0,0,1; = 3", "save(0, -1) = NONE",
            "save(1, 0) = 2", "save(2, -1) = NONE");
        edges.of(21, "whatever the NIGHT", "court j3,0,1;d0;t1,1;r0,0;v0,0,1; = 2", "hum(0) = 3", "hum(1) = FULL", "save(0, -1) = 1",
            "save(0, 0) = 1");
    }

    private static void canOfNumbers() {
        edges.of(22, "no COURT is BAD: there is no such CASE", "can(0, 0) = BAD", "can(0, 9) = BAD", SMALL, "can(0, 0) = BAD");
        edges.of(22, "CASES are those told", COURT, "can(2, 0) = 2", "can(3, 0) = BAD", "can(-1, 0) = BAD", "can(MOST, 0) = BAD",
            "can(LEAST, 0) = BAD");
        edges.of(22, "n is 0 to 8", COURT, "can(1, 0) = 1", "can(1, 8) = 7", "can(1, -1) = BAD", "can(1, 9) = BAD", "can(1, MOST) = BAD",
            "can(1, LEAST) = BAD");
    }

    private static void canBehindFewer() {
        edges.of(22, "each VERDICT alone", "court j4,0,1;d3;r3,3;v0,0,1; = 1", "can(0, 8) = 1", "court j4,0,1;d1;r3,3;v0,0,1; = 1",
            "can(0, 8) = 2", "court j4,0,1;d0;r3,3;v0,0,1; = 1", "can(0, 8) = 4");
        edges.of(22, "behind n HUMS or fewer", "court j3,0,1;d1;r0,1;t0,0;v1,1,0; = 2", "can(0, 0) = 4", "can(0, 1) = 6", "can(0, 8) = 6");
        edges.of(22, "OPEN, FREE and GUILTY, one more by each HUM", COURT, "can(1, 0) = 1", "can(1, 1) = 5", "can(1, 2) = 7");
        edges.of(22, "FREE behind seven HUMS, not behind six", SEVEN, "can(0, 6) = 5", "can(0, 7) = 7", "can(0, 8) = 7");
        edges.of(22, "OPEN or not", COURT, "hear(2) = 1", "can(2, 0) = 2", "forget(2) = 1", "can(2, 0) = 1", "can(2, 1) = 5",
            "can(2, 2) = 5");
        edges.of(22, "it is HEARD: its PLEA is hummed", "court j3,0,1;d0;t1,0;v0,2,1; = 1", "can(0, 0) = 2");
    }

    private static void orderOfNumbers() {
        edges.of(23, "STATE: no COURT, ahead of BAD", "order(-1) = STATE", "order(-3) = STATE", "order(0) = STATE");
        edges.of(23, "k is -2 at least", COURT, "order(-2) = 0", "order(-1) = 2", "order(-3) = BAD", "order(LEAST) = BAD", "order(0) = 1",
            "order(1) = 2", "order(2) = 0", "order(3) = NONE", "order(MOST) = NONE");
        edges.of(23, "no CASE", SMALL, "order(-2) = 0", "order(-1) = 0", "order(0) = NONE", "order(-3) = BAD");
        edges.of(23, "none is OPEN", "court j3,3,1;d0;r2,2;v0,0,1;v0,1,0; = 1", "hear(0) = 2", "hear(1) = 1", "order(-1) = 0",
            "order(-2) = 0", "order(0) = NONE");
        edges.of(23, "one is OPEN", "court j3,3,1;d0;r2,2;v0,0,1;v0,1,0; = 1", "hear(0) = 2", "order(-1) = 1", "order(-2) = 0",
            "order(0) = 1", "order(1) = NONE");
        edges.of(23, "five are OPEN", "court j3,3,1;d0;r2,2;v0,0,1;v0,0,1;v0,0,1;v0,1,0;v0,1,0; = 1", "order(-1) = 2", "order(-2) = 3",
            "order(0) = 0", "order(1) = 1", "order(2) = 2", "order(3) = 3", "order(4) = 4", "order(5) = NONE");
    }

    private static void orderOfSeveral() {
        edges.of(23, "none is FREE: all GUILTY, or all OPEN", "court j3,3,1;d0;r2,2;v0,0,1;v0,0,1; = 1", "order(-1) = 0", "order(-2) = 2",
            "order(0) = 0", "order(1) = 1", "forget(0) = 0", "order(-1) = 0", "order(-2) = 0", "order(0) = 0", "order(1) = 1");
        edges.of(23, "each once: one that stays OPEN is not HEARD again", "court j3,3,1;d0;t1,0;v0,2,0; = 1", "forget(0) = 0",
            "order(-1) = 0", "order(0) = 0", "order(1) = NONE");
        // 1, HEARD first, takes 0, by which 0 loses, and brings 2, by which it wins itself.
        edges.of(23, "most FREE, though not the first", "court j4,4,1;d0;r3,3;f2,0;v0,0,2;v1,3,2; = 2", "order(-1) = 2", "order(-2) = 0",
            "order(0) = 1", "order(1) = 0");
        edges.of(23, "of several fewest GUILTY", "court j4,4,1;d0;r3,3;f2,0;v0,0,1;v1,3,2; = 2", "order(-1) = 1", "order(-2) = 0",
            "order(0) = 1", "order(1) = 0");
        // 2 first, and none is GUILTY, but none is FREE either.
        edges.of(23, "most FREE, though more are GUILTY", "court j4,4,1;d2;s0,2;f3,2;v0,2,0;v0,2,0;v1,0,2; = 2", "order(-1) = 1",
            "order(-2) = 2", "order(0) = 0", "order(1) = 2", "order(2) = 1");
        edges.of(23, "of several the first, by numbers", "court j4,4,1;d0;r3,3;v0,1,0;v0,1,0;v0,1,0; = 1", "order(-1) = 3", "order(0) = 0",
            "order(1) = 1", "order(2) = 2");
        edges.of(23, "the DREAM wears between", "court j4,1,1;d0,1;r3,3;v0,2,0;v0,2,1; = 1", "order(-1) = 2", "order(0) = 1",
            "order(1) = 0");
        edges.of(23, "of OPEN ones alone: FREE ones are not counted", "court j4,4,1;d0;r3,3;v0,1,0;v0,1,0;v0,0,1; = 1", "hear(1) = 1",
            "order(-1) = 1", "order(-2) = 1", "order(0) = 0", "order(1) = 2", "order(2) = NONE");
        edges.of(23, "one that is GUILTY is not HEARD, one that is OPEN again is", "court j4,4,1;d0,1;r3,3;v0,0,1;v0,2,0; = 1",
            "hear(0) = 2", "order(0) = 1", "order(1) = NONE", "forget(0) = 2", "appeal(0) = 1", "order(-1) = 1", "order(0) = 0",
            "order(1) = 1", "order(2) = NONE");
    }

    private static void theFirst() {
        edges.of(24, "STATE: no COURT", "first() = STATE");
        edges.of(24, "NONE: no CASE, and none is OPEN", SMALL, "first() = NONE", "court j3,3,1;d0;r2,2;v0,0,1; = 1", "first() = 0",
            "hear(0) = 2", "first() = NONE");
        edges.of(24, "the one that is OPEN", COURT, "hear(2) = 1", "hear(0) = 1", "first() = 1");
        edges.of(24, "of several the first, though none is FREE", "court j3,3,1;d0;r2,2;v0,0,1;v0,0,1; = 1", "first() = 0", "hear(0) = 2",
            "first() = 1");
        edges.of(24, "of several the first, GUILTY ones do not matter", "court j4,4,1;d0;r3,3;f2,0;v0,0,1;v1,3,2; = 2", "order(0) = 1",
            "first() = 0");
        edges.of(24, "the one by which most are FREE, by the best order of the others", COURT, "order(-1) = 2", "first() = 1");
        // 0, 1, 2 lets 2 be FREE, as 1 first does; 0, 2, 1 but 1.
        edges.of(24, "the best order of the others counts, not the last that was tried",
            "court j5,3,1;d0;f2,0;c1,3;v1,0,4;v0,4,2;v1,0,2; = 2", "order(-1) = 2", "first() = 0");
        edges.of(24, "the last of five", "court j6,6,1;d0;r5,5;f1,0;v0,0,1;v0,0,1;v0,0,1;v0,0,1;v1,5,1; = 2", "order(-1) = 5",
            "first() = 4");
    }

    private static void casesThatClash() {
        edges.of(25, "STATE: no COURT, ahead of BAD", "clashes(0) = STATE", "clashes(1) = STATE", "clashes(2) = STATE",
            "clashes(-1) = STATE");
        edges.of(25, "what is 0 or 1", COURT, "clashes(0) = 1", "clashes(1) = 2", "clashes(2) = BAD", "clashes(-1) = BAD",
            "clashes(MOST) = BAD", "clashes(LEAST) = BAD");
        edges.of(25, "no CASE, and one", SMALL, "clashes(0) = 0", "clashes(1) = NONE", "court j3,0,1;d0;t0,0;v0,0,1; = 1", "clashes(0) = 0",
            "clashes(1) = NONE");
        edges.of(25, "one WINS by what the other LOSES by, either way", "court j4,0,1;d0;t0,0;v0,0,1;v0,1,2; = 1", "clashes(0) = 1",
            "clashes(1) = 1", "court j4,0,1;d0;t0,0;v0,1,2;v0,0,1; = 1", "clashes(0) = 1", "clashes(1) = 1");
        edges.of(25, "both ways are one pair", "court j4,0,1;d0;t0,0;v0,0,1;v0,1,0; = 1", "clashes(0) = 1");
        edges.of(25, "two that WIN, or LOSE, by the same do not clash", "court j4,0,1;d0;t0,0;v0,0,1;v0,2,1;v0,0,3; = 1",
            "clashes(0) = 0", "clashes(1) = NONE");
        edges.of(25, "the last pair of five", "court j8,0,1;d0;t0,0;v0,0,1;v0,0,1;v0,0,1;v0,2,3;v0,3,4; = 1", "clashes(0) = 1",
            "clashes(1) = 34");
        edges.of(25, "the first of several, six pairs of five CASES", "court j4,0,1;d0;t0,0;v0,0,1;v0,0,1;v0,0,1;v0,1,0;v0,1,0; = 1",
            "clashes(0) = 6", "clashes(1) = 3");
        edges.of(25, "OPEN or not", "court j4,4,1;d0;t0,0;v0,0,1;v0,1,0; = 1", "hear(0) = 2", "hear(1) = 1", "clashes(0) = 1",
            "clashes(1) = 1");
    }

    private static void humsThatAreDeaf() {
        edges.of(26, "STATE: no COURT", "deaf() = STATE");
        edges.of(26, "none of them", "court j4,0,1;d0;t1,0;r0,0; = 2", "deaf() = 0");
        edges.of(26, "all six", "court j4,0,1;d0;t0,0;s1,1;r0,1;f1,2;f0,0;s0,0; = 6", "deaf() = 63");
        edges.of(26, "the sixth alone", "court j8,0,1;d0;t1,0;t2,0;t3,0;t4,0;t5,0;t0,0; = 6", "deaf() = 32");
        edges.of(26, "as it is now", COURT, "deaf() = 4", "hum(0) = 11", "deaf() = 1", "learn(3, 0) = 0", "forget(0) = 10", "deaf() = 9");
    }

    private static void humsThatAreTheSame() {
        edges.of(27, "STATE: no COURT, ahead of BAD", "same(0) = STATE", "same(1) = STATE", "same(2) = STATE", "same(-1) = STATE");
        edges.of(27, "what is 0 or 1", COURT, "same(0) = 0", "same(1) = NONE", "same(2) = BAD", "same(-1) = BAD", "same(MOST) = BAD",
            "same(LEAST) = BAD");
        edges.of(27, "one HUM has no like", SMALL, "same(0) = 0", "same(1) = NONE");
        edges.of(27, "all 15 pairs of six", "court j3,0,1;d0;t1,0;t1,1;t1,2;t1,0;t1,1;t1,2; = 6", "same(0) = 15", "same(1) = 1");
        edges.of(27, "the last pair of six", "court j8,0,1;d0;t0,0;t1,0;t2,0;t3,0;t4,0;t4,7; = 6", "same(0) = 1", "same(1) = 45");
        edges.of(27, "of unlike KINDS: steps and feathers of alike THINGS", "court j3,0,1;d0;s1,1;f2,2; = 2", "same(0) = 1", "same(1) = 1");
        edges.of(27, "alike in this DREAM, but not in all", "court j3,0,1;d0;t1,0;s1,0;r1,2;s2,2; = 4", "deaf() = 12", "same(0) = 0",
            "same(1) = NONE");
        edges.of(27, "alike in many DREAMS, but not in all", "court j3,0,1;d0;s1,0;s1,2;c1,0;t1,1; = 4", "same(0) = 0");
        edges.of(27, "by what is learnt", "court j3,0,1;d0;t1,0;t2,0; = 2", "same(0) = 0", "learn(1, 1) = 2", "same(0) = 1", "same(1) = 1",
            "undo() = 0", "same(1) = NONE");
        edges.of(27, "THING of rain is nothing to it, OTHER is", "court j3,0,1;d0;r0,1;r2,1;r0,2; = 3", "same(0) = 1", "same(1) = 1");
    }
}
