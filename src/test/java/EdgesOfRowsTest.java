/** The boundary cases of ROWS: promises 2 to 5, and what promise 40 tells of them. */
public final class EdgesOfRowsTest {
    /** Four HUMS: 0, 1, 2 bring the THING of their number, 3 leaves all; nothing but THING 7 is dreamt. */
    private static final String HUMS = "court j8,0,1;d7;t0,0;t1,0;t2,0;s0,0; = 4";
    private static final Edges edges = new Edges();

    public static void main(String[] args) {
        rowsAreMade();
        rowsTakeThePlaceOfOthers();
        itemsAreSet();
        itemsAreCutToTheirLane();
        itemsAreCopied();
        copiesOfNone();
        copiesThatOverlap();
        copiesThatAreRefused();
        copiesBeyondAnEnd();
        rowsAreDropped();
        statusIsTheLatest();
        edges.end(2, 3, 4, 5, 40);
    }

    private static void rowsAreMade() {
        edges.of(2, "ROWS are 0 .. 7", "row(0, 0, 1) = 1", "row(7, 0, 1) = 1", "row(-1, 0, 1) = BAD", "row(8, 0, 1) = BAD",
            "row(MOST, 0, 1) = BAD", "row(LEAST, 0, 1) = BAD", "count(0) = 2");
        edges.of(2, "eight ROWS there can be", "row(0, 0, 1) = 1", "row(1, 0, 1) = 1", "row(2, 0, 1) = 1", "row(3, 0, 1) = 1",
            "row(4, 0, 1) = 1", "row(5, 0, 1) = 1", "row(6, 0, 1) = 1", "count(0) = 7", "row(7, 0, 1) = 1", "count(0) = 8",
            "row(8, 0, 1) = BAD", "count(0) = 8");
        edges.of(2, "LANES are 0 .. 2", "row(0, 0, 1) = 1", "row(1, 2, 1) = 1", "row(2, -1, 1) = BAD", "row(2, 3, 1) = BAD",
            "row(2, MOST, 1) = BAD", "row(2, LEAST, 1) = BAD", "count(0) = 2");
        edges.of(2, "n is 40 at most", "row(0, 0, 40) = 40", "row(1, 1, 40) = 40", "row(2, 2, 40) = 40", "row(3, 0, 41) = BAD",
            "row(4, 1, 41) = BAD", "row(5, 2, 41) = BAD", "row(6, 2, MOST) = BAD", "count(0) = 3");
        edges.of(2, "n is 0 at least, else SIZE", "row(0, 0, 0) = 0", "row(1, 2, 0) = 0", "row(2, 0, -1) = SIZE",
            "row(2, 2, LEAST) = SIZE", "count(0) = 2");
        edges.of(2, "BAD comes ahead of SIZE", "row(8, 0, -1) = BAD", "row(-1, 0, -1) = BAD", "row(0, 3, -1) = BAD",
            "row(0, -1, -1) = BAD", "count(0) = 0");
        edges.of(2, "a ROW of none is there, but has no place", "row(5, 1, 0) = 0", "count(0) = 1", "set(5, 0, 1) = PLACE",
            "drop(5) = 0");
        edges.of(2, "a ROW needs no COURT, and outlasts one", "row(0, 2, 1) = 1", "set(0, 0, 2) = 2", HUMS,
            "sleep(0, 0, 1) = 132", "count(0) = 1");
    }

    private static void rowsTakeThePlaceOfOthers() {
        edges.of(2, "ITEMS are 0 at first", HUMS, "row(0, 2, 3) = 3", "row(1, 2, 1) = 1", "set(1, 0, 3) = 3",
            "began(1, 1, 0, 0, 0, 1) = 0", "began(1, 1, 0, 0, 1, 1) = 0", "began(1, 1, 0, 0, 2, 1) = 0");
        edges.of(2, "40 ITEMS are 0 at first, the last one, too", HUMS, "row(0, 0, 40) = 40", "sleep(0, 39, 1) = 129",
            "sleep(0, 28, 12) = 129", "sleep(0, 29, 12) = PLACE");
        edges.of(2, "ITEMS are 0 again in place of what is there", HUMS, "ints 0: 1 2 1", "row(0, 2, 3) = 3",
            "sleep(0, 0, 3) = 129");
        edges.of(2, "ITEMS are 0 again in a longer ROW", HUMS, "ints 0: 1 2 1", "row(0, 2, 1) = 1", "row(0, 2, 4) = 4",
            "sleep(0, 0, 4) = 129", "sleep(0, 0, 5) = PLACE");
        edges.of(2, "a shorter ROW has no more places", "ints 0: 1 2 1", "row(0, 2, 2) = 2", "set(0, 1, 1) = 1",
            "set(0, 2, 1) = PLACE");
        edges.of(2, "a ROW has the LANE told last", "row(0, 2, 1) = 1", "set(0, 0, 70000) = 70000", "row(0, 1, 1) = 1",
            "set(0, 0, 70000) = 4464", "row(0, 0, 1) = 1", "set(0, 0, 70000) = 112");
        edges.of(2, "SIZE and BAD leave the ROW that is there", HUMS, "ints 0: 1 2", "row(0, 0, -1) = SIZE",
            "row(0, 3, 1) = BAD", "row(0, 0, 41) = BAD", "sleep(0, 0, 2) = 134", "set(0, 0, 300) = 300", "drop(0) = 2");
        edges.of(2, "one ROW leaves the others", HUMS, "ints 0: 1", "ints 1: 2", "row(2, 2, 1) = 1", "row(0, 2, 1) = 1",
            "sleep(1, 0, 1) = 132", "count(0) = 3");
    }

    private static void itemsAreSet() {
        edges.of(3, "ROWS are missing at first", "set(0, 0, 0) = NULL", "set(1, 0, 0) = NULL", "set(2, 0, 0) = NULL",
            "set(3, 0, 0) = NULL", "set(4, 0, 0) = NULL", "set(5, 0, 0) = NULL", "set(6, 0, 0) = NULL", "set(7, 0, 0) = NULL");
        edges.of(3, "BAD is a ROW that cannot be", "set(-1, 0, 0) = BAD", "set(8, 0, 0) = BAD", "set(MOST, 0, 0) = BAD",
            "set(LEAST, 0, 0) = BAD");
        edges.of(3, "NULL comes ahead of PLACE", "set(0, -1, 0) = NULL", "set(0, 40, 0) = NULL", "set(0, LEAST, 0) = NULL");
        edges.of(3, "the first place and the last, and those that are none", "row(0, 2, 3) = 3", "set(0, 0, 5) = 5",
            "set(0, 2, 5) = 5", "set(0, -1, 5) = PLACE", "set(0, 3, 5) = PLACE", "set(0, MOST, 5) = PLACE",
            "set(0, LEAST, 5) = PLACE");
        edges.of(3, "the last place of 40", "row(0, 2, 40) = 40", "set(0, 39, 5) = 5", "set(0, 40, 5) = PLACE");
        edges.of(3, "a ROW of none has no place", "row(0, 2, 0) = 0", "set(0, 0, 5) = PLACE", "set(0, -1, 5) = PLACE");
        edges.of(3, "one ITEM alone becomes v", HUMS, "ints 0: 0 0 0", "set(0, 1, 2) = 2", "sleep(0, 0, 1) = 129",
            "sleep(0, 1, 1) = 132", "sleep(0, 2, 1) = 129");
        edges.of(3, "a ROW that was dropped is missing", "row(0, 2, 3) = 3", "drop(0) = 3", "set(0, 0, 5) = NULL");
    }

    private static void itemsAreCutToTheirLane() {
        edges.of(3, "a byte has the lowest 8 bits", "row(0, 0, 1) = 1", "set(0, 0, 127) = 127", "set(0, 0, 128) = -128",
            "set(0, 0, -128) = -128", "set(0, 0, -129) = 127", "set(0, 0, 255) = -1", "set(0, 0, 256) = 0",
            "set(0, 0, MOST) = -1", "set(0, 0, LEAST) = 0", "set(0, 0, -1) = -1");
        edges.of(3, "a short has the lowest 16 bits", "row(0, 1, 1) = 1", "set(0, 0, 128) = 128", "set(0, 0, 32767) = 32767",
            "set(0, 0, 32768) = -32768", "set(0, 0, -32768) = -32768", "set(0, 0, -32769) = 32767", "set(0, 0, 65535) = -1",
            "set(0, 0, 65536) = 0", "set(0, 0, MOST) = -1", "set(0, 0, LEAST) = 0");
        edges.of(3, "an int has them all", "row(0, 2, 1) = 1", "set(0, 0, 32768) = 32768", "set(0, 0, 65536) = 65536",
            "set(0, 0, MOST) = 2147483647", "set(0, 0, LEAST) = -2147483648", "set(0, 0, -1) = -1");
        edges.of(3, "what is left of v is what the ITEM is", HUMS, "row(0, 0, 1) = 1", "set(0, 0, 258) = 2",
            "sleep(0, 0, 1) = 132", "row(1, 1, 1) = 1", "set(1, 0, 65537) = 1", "sleep(1, 0, 1) = 130", "row(2, 2, 1) = 1",
            "set(2, 0, 65537) = 65537", "sleep(2, 0, 1) = KIND");
        edges.of(3, "a DREAM of 128 is below 0 in bytes, and none", HUMS, "ints 0: 3", "row(1, 0, 1) = 1",
            "set(1, 0, 128) = -128", "began(0, 0, 0, 1, 0, 1) = 0", "row(1, 1, 1) = 1", "set(1, 0, 128) = 128",
            "began(1, 0, 0, 1, 0, 1) = 128");
    }

    private static void itemsAreCopied() {
        edges.of(4, "ITEMS of a come to b, the rest stays", HUMS, "ints 0: 0 1 2", "ints 1: 3 3 3", "copy(0, 1, 1, 0, 2) = 2",
            "sleep(1, 0, 1) = 130", "sleep(1, 1, 1) = 132", "sleep(1, 2, 1) = 128", "sleep(0, 0, 1) = 129",
            "sleep(0, 1, 1) = 130", "sleep(0, 2, 1) = 132");
        edges.of(4, "a whole ROW", HUMS, "ints 0: 0 1 2", "ints 1: 3 3 3", "copy(0, 0, 1, 0, 3) = 3", "sleep(1, 0, 3) = 135");
        edges.of(4, "40 ITEMS", "row(0, 0, 40) = 40", "row(1, 0, 40) = 40", "copy(0, 0, 1, 0, 40) = 40",
            "copy(0, 0, 1, 0, 41) = PLACE", "copy(0, 39, 1, 39, 1) = 1", "copy(0, 40, 1, 0, 1) = PLACE");
        edges.of(4, "the last ITEM to the first place, the first to the last", HUMS, "bytes 0: 0 1 2", "bytes 1: 3 3 3",
            "copy(0, 2, 1, 0, 1) = 1", "copy(0, 0, 1, 2, 1) = 1", "sleep(1, 0, 1) = 132", "sleep(1, 1, 1) = 128",
            "sleep(1, 2, 1) = 129");
        edges.of(4, "bytes, shorts and ints, each to their like", "row(0, 0, 1) = 1", "row(1, 0, 1) = 1", "row(2, 1, 1) = 1",
            "row(3, 1, 1) = 1", "row(4, 2, 1) = 1", "row(5, 2, 1) = 1", "copy(0, 0, 1, 0, 1) = 1", "copy(2, 0, 3, 0, 1) = 1",
            "copy(4, 0, 5, 0, 1) = 1");
    }

    private static void copiesOfNone() {
        edges.of(4, "none, at the first place, and behind the last", "ints 0: 1 2 3", "ints 1: 4 5",
            "copy(0, 0, 1, 0, 0) = 0", "copy(0, 3, 1, 2, 0) = 0", "copy(0, 4, 1, 2, 0) = PLACE", "copy(0, 3, 1, 3, 0) = PLACE",
            "copy(0, -1, 1, 0, 0) = PLACE", "copy(0, 0, 1, -1, 0) = PLACE");
        edges.of(4, "none, of ROWS of none", "row(0, 1, 0) = 0", "row(1, 1, 0) = 0", "copy(0, 0, 1, 0, 0) = 0",
            "copy(0, 0, 1, 0, 1) = PLACE", "copy(0, 1, 1, 0, 0) = PLACE", "copy(0, 0, 1, 1, 0) = PLACE");
        edges.of(4, "none, but of a ROW that is missing, or of two LANES", "row(0, 1, 2) = 2", "row(1, 2, 2) = 2",
            "copy(0, 0, 2, 0, 0) = NULL", "copy(2, 0, 0, 0, 0) = NULL", "copy(0, 0, 1, 0, 0) = STORE");
    }

    private static void copiesThatOverlap() {
        edges.of(4, "upwards in one ROW, as they were ahead", HUMS, "ints 0: 0 1 2 3", "copy(0, 0, 0, 1, 3) = 3",
            "sleep(0, 0, 1) = 129", "sleep(0, 1, 1) = 129", "sleep(0, 2, 1) = 130", "sleep(0, 3, 1) = 132");
        edges.of(4, "downwards in one ROW, as they were ahead", HUMS, "ints 0: 3 0 1 2", "copy(0, 1, 0, 0, 3) = 3",
            "sleep(0, 0, 1) = 129", "sleep(0, 1, 1) = 130", "sleep(0, 2, 1) = 132", "sleep(0, 3, 1) = 132");
        edges.of(4, "a ROW onto itself", HUMS, "shorts 0: 0 1 2", "copy(0, 0, 0, 0, 3) = 3", "sleep(0, 0, 1) = 129",
            "sleep(0, 1, 1) = 130", "sleep(0, 2, 1) = 132");
    }

    private static void copiesThatAreRefused() {
        edges.of(4, "BAD is a ROW that cannot be, either one", "row(0, 0, 1) = 1", "copy(-1, 0, 0, 0, 1) = BAD",
            "copy(8, 0, 0, 0, 1) = BAD", "copy(0, 0, -1, 0, 1) = BAD", "copy(0, 0, 8, 0, 1) = BAD", "copy(7, 0, 0, 0, 1) = NULL",
            "copy(0, 0, 7, 0, 1) = NULL");
        edges.of(4, "BAD comes ahead of NULL and PLACE", "copy(0, 0, 8, 0, 1) = BAD", "copy(8, 0, 0, 0, 1) = BAD",
            "copy(-1, -1, 0, -1, -1) = BAD");
        edges.of(4, "NULL comes ahead of STORE and PLACE", "row(0, 0, 1) = 1", "copy(0, -1, 1, 0, 1) = NULL",
            "copy(1, 0, 0, 9, 1) = NULL", "copy(1, 0, 2, 0, -1) = NULL");
        edges.of(4, "STORE: ROWS of two LANES, any two", "bytes 0: 1", "shorts 1: 2", "ints 2: 3",
            "copy(0, 0, 1, 0, 1) = STORE", "copy(0, 0, 2, 0, 1) = STORE", "copy(1, 0, 0, 0, 1) = STORE",
            "copy(1, 0, 2, 0, 1) = STORE", "copy(2, 0, 0, 0, 1) = STORE", "copy(2, 0, 1, 0, 1) = STORE");
        edges.of(4, "STORE comes ahead of PLACE", "bytes 0: 1", "shorts 1: 2", "copy(0, -1, 1, 0, 1) = STORE",
            "copy(0, 0, 1, 5, 1) = STORE", "copy(0, 0, 1, 0, -1) = STORE");
    }

    private static void copiesBeyondAnEnd() {
        String[] rows = {"ints 0: 11 12 13 14", "ints 1: 21 22 23"};
        edges.of(4, "PLACE: i below 0", rows[0], rows[1], "copy(0, 0, 1, 0, 1) = 1", "copy(0, -1, 1, 0, 1) = PLACE",
            "copy(0, LEAST, 1, 0, 1) = PLACE");
        edges.of(4, "PLACE: j below 0", rows[0], rows[1], "copy(0, 0, 1, -1, 1) = PLACE", "copy(0, 0, 1, LEAST, 1) = PLACE");
        edges.of(4, "PLACE: n below 0", rows[0], rows[1], "copy(0, 0, 1, 0, 0) = 0", "copy(0, 0, 1, 0, -1) = PLACE",
            "copy(0, 2, 1, 2, -1) = PLACE", "copy(0, 0, 1, 0, LEAST) = PLACE", "copy(0, 4, 1, 3, -1) = PLACE");
        edges.of(4, "PLACE: beyond the end of a", rows[0], rows[1], "copy(0, 1, 1, 0, 3) = 3", "copy(0, 2, 1, 0, 3) = PLACE",
            "copy(0, 4, 1, 0, 1) = PLACE", "copy(0, MOST, 1, 0, 1) = PLACE", "copy(0, 1, 1, 0, MOST) = PLACE",
            "copy(0, MOST, 1, 0, MOST) = PLACE");
        edges.of(4, "PLACE: beyond the end of b", rows[0], rows[1], "copy(0, 0, 1, 0, 3) = 3", "copy(0, 0, 1, 0, 4) = PLACE",
            "copy(0, 0, 1, 1, 3) = PLACE", "copy(0, 0, 1, 2, 1) = 1", "copy(0, 0, 1, 3, 1) = PLACE",
            "copy(0, 0, 1, MOST, 1) = PLACE", "copy(1, 0, 0, 2, 3) = PLACE", "copy(1, 0, 0, 1, 3) = 3");
    }

    private static void rowsAreDropped() {
        edges.of(5, "how many ITEMS it had", "row(0, 0, 0) = 0", "row(7, 2, 40) = 40", "drop(0) = 0", "drop(7) = 40",
            "count(0) = 0");
        edges.of(5, "NULL: a ROW that is missing, at first or again", "drop(0) = NULL", "drop(7) = NULL", "row(3, 1, 2) = 2",
            "drop(3) = 2", "drop(3) = NULL");
        edges.of(5, "BAD is a ROW that cannot be", "drop(-1) = BAD", "drop(8) = BAD", "drop(MOST) = BAD", "drop(LEAST) = BAD");
        edges.of(5, "one ROW alone is missing then", HUMS, "ints 0: 1", "ints 1: 2", "ints 2: 0", "drop(1) = 1",
            "count(0) = 2", "sleep(0, 0, 1) = 130", "sleep(1, 0, 1) = NULL", "sleep(2, 0, 1) = 129");
        edges.of(5, "a ROW made again has ITEMS of 0", HUMS, "ints 0: 1 1", "drop(0) = 2", "row(0, 2, 2) = 2",
            "sleep(0, 0, 2) = 129");
    }

    private static void statusIsTheLatest() {
        edges.of(40, "0 at first, then by each FINDING its number", "status() = 0", "drop(0) = NULL", "status() = 1",
            "row(0, 0, 1) = 1", "status() = 0", "set(0, 1, 1) = PLACE", "status() = 2", "row(1, 0, -1) = SIZE", "status() = 4",
            "row(1, 1, 1) = 1", "copy(0, 0, 1, 0, 1) = STORE", "status() = 5", "copy(0, 0, 0, 0, 1) = 1", "status() = 0");
        edges.of(40, "by each call with a ROW that finds none it is 0 again", "row(0, 0, 1) = 1", "drop(1) = NULL",
            "row(1, 0, 1) = 1", "status() = 0", "drop(2) = NULL", "set(0, 0, 1) = 1", "status() = 0", "drop(2) = NULL",
            "copy(0, 0, 1, 0, 1) = 1", "status() = 0", "drop(2) = NULL", "drop(1) = 1", "status() = 0");
        edges.of(40, "BAD leaves it, of any call with a ROW", "row(0, 0, 1) = 1", "drop(1) = NULL", "row(8, 0, 1) = BAD",
            "status() = 1", "set(8, 0, 1) = BAD", "status() = 1", "copy(0, 0, 8, 0, 1) = BAD", "status() = 1", "drop(8) = BAD",
            "status() = 1", "set(0, 0, 0) = 0", "drop(-1) = BAD", "status() = 0");
        edges.of(40, "calls without a ROW leave it", "drop(0) = NULL", "tape j", "feed(256) = BAD", "court() = -1000101",
            "fault() = 1", HUMS, "hum(0) = 129", "hum(0) = FULL", "undo() = 0", "undo() = STATE", "kind(0) = 1", "ask(0, 1) = 1",
            "trace(0) = 21", "image(0) = 1", "restore(0) = 1", "restore(1) = STATE", "count(0) = 0", "deaf() = 8",
            "status() = 1");
    }
}
