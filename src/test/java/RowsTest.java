/** Promises 2 to 5 (row, set, copy, drop), and status() and count(0) by them. */
public final class RowsTest {
    private static final int BAD = SleepingJudge.BAD;
    private static final int NULL = -1000011, PLACE = -1000012, SIZE = -1000014, STORE = -1000015;
    private static final Check check = new Check();

    public static void main(String[] args) {
        rowsAreMade();
        itemsAreSet();
        itemsAreCopied();
        copyIsRefused();
        rowsAreDropped();
        statusTellsTheLatest();
        check.end();
    }

    private static void rowsAreMade() {
        SleepingJudge x = new SleepingJudge();
        check.due("row of 0", x.row(0, 0, 0), 0);
        check.due("row of 40", x.row(7, 2, 40), 40);
        check.due("row of 41", x.row(7, 2, 41), BAD);
        check.due("row -1", x.row(-1, 0, 1), BAD);
        check.due("row 8", x.row(8, 0, 1), BAD);
        check.due("lane -1", x.row(0, -1, 1), BAD);
        check.due("lane 3", x.row(0, 3, 1), BAD);
        check.due("n -1", x.row(0, 0, -1), SIZE);
        check.due("n least", x.row(0, 0, Integer.MIN_VALUE), SIZE);
        check.due("BAD ahead of SIZE", x.row(8, 0, -1), BAD);
        check.due("rows", x.count(0), 2);
        check.due("a row in place of another", x.row(7, 0, 3), 3);
        check.due("rows yet", x.count(0), 2);
        check.due("what SIZE found left the row", x.row(7, 1, -1), SIZE);
        check.due("dropped", x.drop(7), 3);
    }

    private static void itemsAreSet() {
        SleepingJudge x = new SleepingJudge();
        check.due("missing", x.set(0, 0, 1), NULL);
        check.due("no row", x.set(8, 0, 1), BAD);
        x.row(0, 0, 2);
        x.row(1, 1, 2);
        x.row(2, 2, 2);
        check.due("byte", x.set(0, 0, 127), 127);
        check.due("byte over", x.set(0, 1, 128), -128);
        check.due("byte of 511", x.set(0, 1, 511), -1);
        check.due("byte of 256", x.set(0, 1, 256), 0);
        check.due("short", x.set(1, 0, 32767), 32767);
        check.due("short over", x.set(1, 1, 32768), -32768);
        check.due("short of 65537", x.set(1, 1, 65537), 1);
        check.due("int", x.set(2, 1, Integer.MIN_VALUE), Integer.MIN_VALUE);
        check.due("place 2", x.set(0, 2, 1), PLACE);
        check.due("place -1", x.set(0, -1, 1), PLACE);
        check.due("place largest", x.set(0, Integer.MAX_VALUE, 1), PLACE);
        x.row(0, 0, 0);
        check.due("place of an empty row", x.set(0, 0, 1), PLACE);
    }

    /** What a ROW holds is seen by HUMS of it: 0 brings 0, 1 brings 1, 2 brings 2. */
    private static SleepingJudge withHums() {
        SleepingJudge x = Check.judgeOf("j4,0,1;d3;t0,0;t1,0;t2,0;");
        Check.fill(x, 0, 0, 1, 2, 0);
        return x;
    }

    private static void itemsAreCopied() {
        SleepingJudge x = withHums();
        x.row(1, 2, 3);
        check.due("copy", x.copy(0, 1, 1, 0, 2), 2);
        check.due("1 and 2", x.sleep(1, 0, 2), 8 + 2 + 4);
        check.due("the rest is 0", x.sleep(1, 2, 1), 8 + 1);
        check.due("copy of none, at the end", x.copy(0, 4, 1, 3, 0), 0);
        check.due("overlap upwards", x.copy(0, 0, 0, 1, 3), 3);
        check.due("0 at 1", x.sleep(0, 1, 1), 8 + 1);
        check.due("1 at 2", x.sleep(0, 2, 1), 8 + 2);
        check.due("2 at 3", x.sleep(0, 3, 1), 8 + 4);
        check.due("overlap downwards", x.copy(0, 2, 0, 0, 2), 2);
        check.due("1 at 0", x.sleep(0, 0, 1), 8 + 2);
        check.due("2 at 1", x.sleep(0, 1, 1), 8 + 4);
        check.due("a new row has zeros", x.row(0, 2, 4) + x.sleep(0, 0, 4), 4 + 8 + 1);
    }

    private static void copyIsRefused() {
        SleepingJudge x = withHums();
        x.row(1, 2, 3);
        x.row(2, 1, 3);
        check.due("no row a", x.copy(8, 0, 0, 0, 1), BAD);
        check.due("no row b", x.copy(0, 0, -1, 0, 1), BAD);
        check.due("BAD ahead of NULL", x.copy(5, 0, 8, 0, 1), BAD);
        check.due("missing a", x.copy(5, 0, 0, 0, 1), NULL);
        check.due("missing b", x.copy(0, 0, 5, 0, 1), NULL);
        check.due("two lanes", x.copy(0, 0, 2, 0, 1), STORE);
        check.due("STORE ahead of PLACE", x.copy(0, -1, 2, 0, 1), STORE);
        check.due("i below 0", x.copy(0, -1, 1, 0, 1), PLACE);
        check.due("j below 0", x.copy(0, 0, 1, -1, 1), PLACE);
        check.due("n below 0", x.copy(0, 0, 1, 0, -1), PLACE);
        check.due("beyond a", x.copy(0, 2, 1, 0, 3), PLACE);
        check.due("beyond b", x.copy(0, 0, 1, 1, 3), PLACE);
        check.due("i largest", x.copy(0, Integer.MAX_VALUE, 1, 0, 1), PLACE);
        check.due("n largest", x.copy(0, 1, 1, 1, Integer.MAX_VALUE), PLACE);
        check.due("n least", x.copy(0, 1, 1, 1, Integer.MIN_VALUE), PLACE);
        check.due("none, but beyond", x.copy(0, 5, 1, 0, 0), PLACE);
        check.due("nothing came", x.sleep(1, 0, 3), 8 + 1);
    }

    private static void rowsAreDropped() {
        SleepingJudge x = new SleepingJudge();
        x.row(3, 1, 5);
        check.due("dropped", x.drop(3), 5);
        check.due("again", x.drop(3), NULL);
        check.due("rows", x.count(0), 0);
        check.due("no row", x.drop(-1), BAD);
        check.due("no row 8", x.drop(8), BAD);
    }

    private static void statusTellsTheLatest() {
        SleepingJudge x = new SleepingJudge();
        check.due("none yet", x.status(), 0);
        x.drop(0);
        check.due("NULL", x.status(), 1);
        x.drop(8);
        check.due("BAD leaves it", x.status(), 1);
        x.sleep(0, 0, 1);
        check.due("STATE leaves it", x.status(), 1);
        x.row(0, 0, 2);
        check.due("fine", x.status(), 0);
        x.set(0, 2, 0);
        check.due("PLACE", x.status(), 2);
        x.hum(0);
        check.due("no ROW in it", x.status(), 2);
        x.row(0, 0, -1);
        check.due("SIZE", x.status(), 4);
        x.row(1, 1, 1);
        x.copy(0, 0, 1, 0, 1);
        check.due("STORE", x.status(), 5);
        x.set(0, 0, 0);
        check.due("fine again", x.status(), 0);
    }
}
