/** Promises 18 to 34 (sleep to restore); what is due is worked out by hand from the document. */
public final class ForetoldTest {
    private static final int NONE = SleepingJudge.NONE, BAD = SleepingJudge.BAD, STATE = SleepingJudge.STATE;
    private static final int NULL = -1000011, PLACE = -1000012, KIND = -1000013;
    private static final String TEXT = "j6,2,3;d0,3;t1,0;c5,2;s4,1;r0,0;f2,3;v0,3,1;v3,5,4;v4,1,2;";
    private static final Check check = new Check();

    public static void main(String[] args) {
        nothingWithoutACourt();
        dreamsBehindARow();
        dreamsBehindAny();
        leastToThings();
        leastWithin12();
        leastToAFreeMan();
        verdictsThatCanBe();
        bestOrder();
        firstIsNotTheOrders();
        pairsThatClash();
        deafAndSame();
        whichFits();
        whatBegan();
        whatWasNotHummed();
        ifThingsAreForgotten();
        termsByDraws();
        imagesAreKept();
        nothingChanges();
        check.end();
    }

    private static void nothingWithoutACourt() {
        SleepingJudge x = new SleepingJudge();
        check.due("sleep", x.sleep(9, 0, 0), STATE);
        check.due("dreams", x.dreams(9, 9), STATE);
        check.due("least", x.least(-1, 0, -2), STATE);
        check.due("save", x.save(0, -1), BAD);
        check.due("can", x.can(0, 0), BAD);
        check.due("order", x.order(-3), STATE);
        check.due("first", x.first(), STATE);
        check.due("clashes", x.clashes(2), STATE);
        check.due("deaf", x.deaf(), STATE);
        check.due("same", x.same(2), STATE);
        check.due("who", x.who(0, 0, 0, 0, 0, 0, 1), BAD);
        check.due("began", x.began(2, 9, 0, 9, 0, 0), STATE);
        check.due("snored", x.snored(-1, 9, 0, 0), STATE);
        check.due("gone", x.gone(0, 5, 0), BAD);
        check.due("drawn", x.drawn(-1, 0, 2), STATE);
        check.due("image", x.image(0), STATE);
        check.due("image, BAD ahead of STATE", x.image(2), BAD);
        check.due("restore", x.restore(1), STATE);
        check.due("restore, BAD ahead of STATE", x.restore(-1), BAD);
    }

    private static void dreamsBehindARow() {
        SleepingJudge x = Check.judgeOf(TEXT);
        Check.fill(x, 0, 5, 0, 4, 3);
        check.due("1", x.sleep(0, 1, 1), 11);
        check.due("2", x.sleep(0, 1, 2), 7);
        check.due("3", x.sleep(0, 1, 3), 6);
        check.due("status", x.status(), 0);
        check.due("5 is no HUM", x.sleep(0, 0, 2), KIND);
        check.due("status KIND", x.status(), 3);
        check.due("beyond", x.sleep(0, 1, 4), PLACE);
        check.due("PLACE ahead of KIND", x.sleep(0, 0, 5), PLACE);
        check.due("i below 0", x.sleep(0, -1, 1), PLACE);
        check.due("i largest", x.sleep(0, Integer.MAX_VALUE, 12), PLACE);
        check.due("missing", x.sleep(1, 0, 1), NULL);
        check.due("n 0", x.sleep(0, 0, 0), BAD);
        check.due("n 13", x.sleep(0, 0, 13), BAD);
        check.due("no ROW", x.sleep(8, 0, 1), BAD);
        check.due("BAD leaves the status", x.status(), 1);
        Check.fill(x, 1, 0, 0, 0, 0, 0, 0, 0, 0, 0, 0, 0, 2);
        check.due("12, whatever the NIGHT", x.sleep(1, 0, 12), 27);
        Check.fill(x, 1, -1);
        check.due("-1 is no HUM", x.sleep(1, 0, 1), KIND);
    }

    private static void dreamsBehindAny() {
        SleepingJudge x = Check.judgeOf(TEXT);
        int[] behindNone = {1, 9, 9, 9, 9};
        int[] behindOne = {5, 0, 47, 5, 41};
        for (int what = 0; what < 5; what++) {
            check.due("behind none " + what, x.dreams(0, what), behindNone[what]);
            check.due("behind one " + what, x.dreams(1, what), behindOne[what]);
        }
        check.due("n 9", x.dreams(9, 0), BAD);
        check.due("n -1", x.dreams(-1, 0), BAD);
        check.due("what 5", x.dreams(0, 5), BAD);
        check.due("what -1", x.dreams(0, -1), BAD);
        SleepingJudge y = Check.judgeOf("j3,0,1;d0;f1,0;f2,1;f0,2;");
        // A feather that finds nothing leaves the DREAM, so behind n HUMS the THING has gone on by 0 to n.
        check.due("behind 0", y.dreams(0, 0), 1);
        check.due("behind 1", y.dreams(1, 0), 2);
        check.due("behind 8", y.dreams(8, 0), 3);
        check.due("in all", y.dreams(8, 1), 0);
        check.due("in any", y.dreams(8, 2), 7);
        SleepingJudge z = Check.judgeOf("j3,0,1;d0;t1,0;");
        check.due("exactly one", z.dreams(1, 0), 1);
        check.due("not none", z.dreams(1, 3), 3);
        z.forget(0);
        check.due("from now on", z.dreams(1, 0), 1);
        check.due("the least from now on", z.dreams(1, 3), 2);
        SleepingJudge w = Check.judgeOf("j8,0,1;d0;r0,0;c7,0;c1,1;c3,1;c5,1;t0,0;");
        check.due("nothing dreamt is the least", w.dreams(1, 3), 0);
        check.due("in all", w.dreams(1, 1), 0);
        check.due("the greatest", w.dreams(1, 4), 129);
        check.due("all THINGS", w.dreams(8, 4), 255);
        check.due("all THINGS in any", w.dreams(8, 2), 255);
        w.forget(0);
        check.due("how many from nothing", w.dreams(0, 0), 1);
        check.due("in any from nothing", w.dreams(0, 2), 0);
        check.due("the greatest from nothing", w.dreams(0, 4), 0);
        check.due("how many behind one from nothing", w.dreams(1, 0), 6);
    }

    private static void leastToThings() {
        SleepingJudge x = Check.judgeOf(TEXT);
        int[] row = {4, 0, 1, 2, 3, NONE, NONE};
        for (int k = -1; k < 6; k++) {
            check.due("least(48, 1, " + k + ")", x.least(48, 1, k), row[k + 1]);
        }
        check.due("by a feather", x.least(4, 8, -1), 1);
        check.due("it is 4", x.least(4, 8, 0), 4);
        check.due("there already", x.least(9, 6, -1), 0);
        check.due("no HUM", x.least(9, 6, 0), NONE);
        check.due("both there and not", x.least(1, 1, -1), NONE);
        check.due("the k-th of none", x.least(1, 1, 0), NONE);
        check.due("k largest", x.least(4, 8, Integer.MAX_VALUE), NONE);
        check.due("there 64", x.least(64, 0, -1), BAD);
        check.due("not 64", x.least(0, 64, -1), BAD);
        check.due("there -1", x.least(-1, 0, -1), BAD);
        check.due("not -1", x.least(0, -1, -1), BAD);
        check.due("k -2", x.least(0, 0, -2), BAD);
        check.due("nothing wanted", x.least(0, 0, -1), 0);
        check.due("all others", x.least(63, 0, -1), NONE);
    }

    /** Feathers carry a THING on by one place each, so that ways as long as wanted can be told. */
    private static void leastWithin12() {
        SleepingJudge x = Check.judgeOf("j8,0,1;d0;f1,0;f2,1;f3,2;f4,3;f5,4;f6,5;");
        check.due("6 on", x.least(64, 0, -1), 6);
        for (int k = 0; k < 6; k++) {
            check.due("the " + k + "th", x.least(64, 0, k), k);
        }
        check.due("never", x.least(128, 0, -1), NONE);
        // A second THING is brought at 0 by a tune, and goes the same way behind the first.
        SleepingJudge y = Check.judgeOf("j8,0,1;d0;t0,0;f1,0;f2,1;f3,2;f4,3;f5,4;");
        check.due("THING 5 alone", y.least(32, 0, -1), 5);
        check.due("4 and 5", y.least(48, 0, -1), 10);
        check.due("5, 4, and 0", y.least(49, 0, -1), 11);
        check.due("5, 4, 0 and 1 are 13 away", y.least(51, 0, -1), NONE);
        check.due("the k-th of these", y.least(51, 0, 0), NONE);
        check.due("5, 3, and 0, 1: 12", y.least(43, 0, -1), 12);
    }

    private static void leastToAFreeMan() {
        SleepingJudge x = Check.judgeOf(TEXT);
        check.due("save(0)", x.save(0, -1), 1);
        check.due("by 4", x.save(0, 0), 4);
        check.due("save(1)", x.save(1, -1), 2);
        check.due("by 0", x.save(1, 0), 0);
        check.due("and 2", x.save(1, 1), 2);
        check.due("no third", x.save(1, 2), NONE);
        check.due("save(2)", x.save(2, -1), 0);
        check.due("no first", x.save(2, 0), NONE);
        check.due("no CASE", x.save(3, -1), BAD);
        check.due("no CASE -1", x.save(-1, -1), BAD);
        check.due("k -2", x.save(0, -2), BAD);
        x.hear(2);
        check.due("OPEN or not", x.save(2, -1), 0);
        SleepingJudge y = Check.judgeOf("j3,0,1;d0;t1,0;v0,0,1;");
        check.due("never", y.save(0, -1), NONE);
        check.due("never a first", y.save(0, 0), NONE);
    }

    private static void verdictsThatCanBe() {
        SleepingJudge x = Check.judgeOf(TEXT);
        check.due("can(0, 0)", x.can(0, 0), 4);
        check.due("can(0, 1)", x.can(0, 1), 6);
        check.due("can(0, 8)", x.can(0, 8), 6);
        check.due("can(1, 0)", x.can(1, 0), 1);
        check.due("can(1, 1)", x.can(1, 1), 5);
        check.due("can(1, 2)", x.can(1, 2), 7);
        check.due("n 9", x.can(1, 9), BAD);
        check.due("n -1", x.can(1, -1), BAD);
        check.due("no CASE", x.can(3, 0), BAD);
        SleepingJudge y = Check.judgeOf("j3,0,1;d1;f2,1;v0,1,0;t0,0;");
        check.due("hums behind a case are no court", y.can(0, 0), BAD);
        SleepingJudge z = Check.judgeOf("j3,0,1;d1;r0,1;t0,0;v1,1,0;");
        check.due("or fewer", z.can(0, 1), 6);
    }

    private static void bestOrder() {
        SleepingJudge x = Check.judgeOf(TEXT);
        check.due("FREE", x.order(-1), 2);
        check.due("GUILTY", x.order(-2), 0);
        check.due("0th", x.order(0), 1);
        check.due("1st", x.order(1), 2);
        check.due("2nd", x.order(2), 0);
        check.due("3rd", x.order(3), NONE);
        check.due("k largest", x.order(Integer.MAX_VALUE), NONE);
        check.due("k -3", x.order(-3), BAD);
        check.due("first", x.first(), 1);
        x.hear(2);
        check.due("of OPEN ones: FREE", x.order(-1), 1);
        check.due("of OPEN ones: 0th", x.order(0), 0);
        check.due("of OPEN ones: 1st", x.order(1), 1);
        check.due("of OPEN ones: 2nd", x.order(2), NONE);
        x.hear(0);
        check.due("one is OPEN", x.first(), 1);
        SleepingJudge y = Check.judgeOf("j3,0,1;d0;t1,0;");
        check.due("no CASES: FREE", y.order(-1), 0);
        check.due("no CASES: GUILTY", y.order(-2), 0);
        check.due("no CASES: 0th", y.order(0), NONE);
        check.due("no CASES: first", y.first(), NONE);
    }

    private static void firstIsNotTheOrders() {
        SleepingJudge x = Check.judgeOf("j4,4,1;d0;r3,3;f2,0;v0,0,1;v1,3,2;");
        check.due("FREE", x.order(-1), 1);
        check.due("fewest GUILTY", x.order(-2), 0);
        check.due("order begins", x.order(0), 1);
        check.due("first, GUILTY or not", x.first(), 0);
        x.learn(1, 3);
        check.due("all GUILTY: FREE", x.order(-1), 0);
        check.due("all GUILTY, or OPEN", x.order(-2), 1);
        check.due("all GUILTY: order begins", x.order(0), 1);
        x.hear(0);
        x.hear(1);
        check.due("none is OPEN", x.first(), NONE);
        check.due("none is OPEN: FREE of these", x.order(-1), 0);
        check.due("none is OPEN: GUILTY of these", x.order(-2), 0);
    }

    private static void pairsThatClash() {
        SleepingJudge x = Check.judgeOf(TEXT);
        check.due("one", x.clashes(0), 1);
        check.due("0 and 2", x.clashes(1), 2);
        check.due("what 2", x.clashes(2), BAD);
        check.due("what -1", x.clashes(-1), BAD);
        SleepingJudge y = Check.judgeOf("j4,0,1;d0;t0,0;v0,2,3;v0,1,0;v0,0,1;");
        check.due("both ways, once", y.clashes(0), 1);
        check.due("1 and 2", y.clashes(1), 12);
        y.hear(0);
        y.hear(1);
        check.due("OPEN or not", y.clashes(0), 1);
        SleepingJudge w = Check.judgeOf("j8,0,1;d0;t0,0;v0,0,1;v0,2,3;v0,4,5;v0,6,7;v0,5,0;");
        check.due("five CASES", w.clashes(0), 2);
        check.due("0 and 4", w.clashes(1), 4);
        SleepingJudge z = Check.judgeOf("j4,0,1;d0;t0,0;v0,2,3;v0,2,3;");
        check.due("alike ones do not", z.clashes(0), 0);
        check.due("none", z.clashes(1), NONE);
    }

    private static void deafAndSame() {
        SleepingJudge x = Check.judgeOf(TEXT);
        check.due("steps without its OTHER", x.deaf(), 4);
        x.hum(0);
        check.due("a tune that was hummed", x.deaf(), 1);
        check.due("none the same", x.same(0), 0);
        check.due("no first", x.same(1), NONE);
        check.due("what 2", x.same(2), BAD);
        check.due("what -1", x.same(-1), BAD);
        SleepingJudge y = Check.judgeOf("j3,0,1;d0;t1,0;t1,2;f0,0;r1,2;r0,2;s2,2;");
        check.due("three pairs", y.same(0), 3);
        check.due("0 and 1", y.same(1), 1);
        y.learn(0, 2);
        check.due("two pairs", y.same(0), 2);
        check.due("2 and 5", y.same(1), 25);
    }

    private static SleepingJudge withRows() {
        SleepingJudge x = Check.judgeOf(TEXT);
        Check.fill(x, 0, 0, 4, 3);
        Check.fill(x, 1, 99, 11, 7, 6);
        return x;
    }

    private static void whichFits() {
        SleepingJudge x = withRows();
        int[][] due = {{10, 2, 63}, {62, 63, 63}, {62, 63, 63}, {16, 63, 1}, {32, 4, 8}};
        for (int hum = 0; hum < 5; hum++) {
            for (int which = 0; which < 3; which++) {
                check.due("who(" + hum + ", " + which + ")", x.who(hum, which, 0, 0, 1, 1, 3), due[hum][which]);
            }
        }
        check.due("nothing fits", x.who(0, 0, 0, 0, 1, 0, 3), 0);
        check.due("nothing fits a HUM not hummed", x.who(1, 1, 0, 0, 1, 0, 3), 0);
        check.due("the same row", x.who(0, 0, 0, 0, 0, 0, 1), 0);
        check.due("no HUM", x.who(5, 0, 0, 0, 1, 1, 3), BAD);
        check.due("which 3", x.who(0, 3, 0, 0, 1, 1, 3), BAD);
        check.due("which -1", x.who(0, -1, 0, 0, 1, 1, 3), BAD);
        check.due("no ROW", x.who(0, 0, 8, 0, 1, 1, 3), BAD);
        check.due("no other ROW", x.who(0, 0, 0, 0, -1, 1, 3), BAD);
        check.due("n 0", x.who(0, 0, 0, 0, 1, 1, 0), BAD);
        check.due("n 13", x.who(0, 0, 0, 0, 1, 1, 13), BAD);
        check.due("missing", x.who(0, 0, 2, 0, 1, 1, 3), NULL);
        check.due("place", x.who(0, 0, 0, 1, 1, 1, 3), PLACE);
        check.due("place ahead of the other", x.who(0, 0, 0, 1, 2, 1, 3), PLACE);
        check.due("no HUM in it, ahead of the other", x.who(0, 0, 1, 0, 2, 0, 1), KIND);
        check.due("status", x.status(), 3);
        check.due("the other is missing", x.who(0, 0, 0, 0, 2, 1, 3), NULL);
        check.due("the other's place", x.who(0, 0, 0, 0, 1, 2, 3), PLACE);
        check.due("status", x.status(), 2);
    }

    private static void whatBegan() {
        SleepingJudge x = withRows();
        check.due("two", x.began(0, 0, 0, 1, 1, 3), 2);
        check.due("the least", x.began(1, 0, 0, 1, 1, 3), 9);
        check.due("none", x.began(0, 0, 0, 1, 0, 1), 0);
        check.due("no least", x.began(1, 0, 0, 1, 0, 1), NONE);
        Check.fill(x, 2, 0);
        Check.fill(x, 3, 2);
        check.due("nothing dreamt, or 1", x.began(0, 2, 0, 3, 0, 1), 2);
        check.due("nothing is the least", x.began(1, 2, 0, 3, 0, 1), 0);
        x.drop(2);
        check.due("a DREAM of 64 more", x.set(1, 1, 64 + 11) + x.began(0, 0, 0, 1, 1, 1), 75);
        check.due("64 itself is no DREAM", x.set(1, 1, 64 + 2) + x.began(0, 0, 0, 1, 1, 1), 66);
        check.due("64 is no least", x.began(1, 0, 0, 1, 1, 1), NONE);
        check.due("what 2", x.began(2, 0, 0, 1, 1, 3), BAD);
        check.due("what -1", x.began(-1, 0, 0, 1, 1, 3), BAD);
        check.due("no ROW", x.began(0, -1, 0, 1, 1, 3), BAD);
        check.due("no other ROW", x.began(0, 0, 0, 8, 1, 3), BAD);
        check.due("n 0", x.began(0, 0, 0, 1, 1, 0), BAD);
        check.due("n 13", x.began(0, 0, 0, 1, 1, 13), BAD);
        check.due("missing", x.began(0, 2, 0, 1, 1, 3), NULL);
        check.due("place", x.began(0, 0, -1, 1, 1, 3), PLACE);
        check.due("no HUM in it", x.began(0, 1, 0, 2, 0, 1), KIND);
        check.due("the other is missing", x.began(0, 0, 0, 2, 0, 1), NULL);
        check.due("the other's place", x.began(0, 0, 0, 1, 2, 3), PLACE);
        check.due("status", x.status(), 2);
        x.began(0, 0, 0, 1, 1, 3);
        check.due("status of a fine one", x.status(), 0);
    }

    private static void whatWasNotHummed() {
        SleepingJudge x = withRows();
        check.due("as it is", x.snored(6, 0, 0, 3), 4096);
        check.due("without the first", x.snored(4, 0, 0, 3), 1);
        check.due("without the second", x.snored(10, 0, 0, 3), 2);
        check.due("without the third", x.snored(7, 0, 0, 3), 4);
        check.due("never so", x.snored(0, 0, 0, 3), 0);
        check.due("the one HUM not hummed", x.snored(9, 0, 0, 1), 1);
        Check.fill(x, 2, 0, 0, 0, 0, 0, 0, 0, 0, 0, 0, 0, 0);
        check.due("any, or none", x.snored(11, 2, 0, 12), 8191);
        check.due("DREAM 64", x.snored(64, 0, 0, 3), BAD);
        check.due("DREAM -1", x.snored(-1, 0, 0, 3), BAD);
        check.due("no ROW", x.snored(0, 8, 0, 3), BAD);
        check.due("n 0", x.snored(0, 0, 0, 0), BAD);
        check.due("n 13", x.snored(0, 0, 0, 13), BAD);
        check.due("missing", x.snored(0, 3, 0, 3), NULL);
        check.due("place", x.snored(0, 0, 1, 3), PLACE);
        check.due("no HUM in it", x.snored(0, 1, 0, 1), KIND);
        check.due("status", x.status(), 3);
    }

    private static void chance(SleepingJudge x, int number, int p, long above, long below) {
        check.due("gone(" + number + ", " + p + ", 0)", x.gone(number, p, 0), above);
        check.due("gone(" + number + ", " + p + ", 1)", x.gone(number, p, 1), below);
    }

    private static void ifThingsAreForgotten() {
        SleepingJudge x = Check.judgeOf(TEXT);
        chance(x, 2, 5, 1, 2);
        chance(x, 2, 3, 7, 10);
        chance(x, 2, 0, 1, 1);
        chance(x, 2, 10, 0, 1);
        chance(x, 0, 4, 2, 5);
        chance(x, 1, 7, 0, 1);
        check.due("no CASE", x.gone(3, 5, 0), BAD);
        check.due("p 11", x.gone(0, 11, 0), BAD);
        check.due("p -1", x.gone(0, -1, 0), BAD);
        check.due("what 2", x.gone(0, 5, 2), BAD);
        check.due("what -1", x.gone(0, 5, -1), BAD);
        // FREE if 0 is kept and 7 is not, whatever of the six others: 0.7 times 0.3.
        SleepingJudge y = Check.judgeOf("j8,0,1;d0,1,2,3,4,5,6,7;r3,3;v0,7,0;");
        chance(y, 0, 3, 21, 100);
        chance(y, 0, 5, 1, 4);
        // FREE if 0 is kept, and all that could bring 7 by steps is gone: 0.9 times 0.1.
        SleepingJudge z = Check.judgeOf("j8,0,1;d0,1;s7,1;v0,7,0;");
        chance(z, 0, 1, 9, 100);
        z.forget(0);
        z.forget(1);
        chance(z, 0, 1, 0, 1);
    }

    private static void termsByDraws() {
        SleepingJudge x = Check.judgeOf(TEXT);
        int[] dream = {9, 9, 5, 4, 4, 6, 6, 6, 6};
        int[] free = {0, 0, 0, 0, 0, 0, 0, 1, 1};
        for (int n = 0; n < 9; n++) {
            check.due("drawn(" + n + ", 1, 1)", x.drawn(n, 1, 1), dream[n]);
            check.due("drawn(" + n + ", 1, 0)", x.drawn(n, 1, 0), free[n]);
        }
        check.due("n 61", x.drawn(61, 1, 0), BAD);
        check.due("n -1", x.drawn(-1, 1, 0), BAD);
        check.due("seed 0", x.drawn(1, 0, 0), BAD);
        check.due("seed 1000000", x.drawn(1, 1000000, 0), BAD);
        check.due("what 2", x.drawn(1, 1, 2), BAD);
        check.due("what -1", x.drawn(1, 1, -1), BAD);
        x.hear(2);
        check.due("those FREE ahead count, too", x.drawn(0, 1, 0), 1);
        check.due("and are not HEARD", x.drawn(6, 1, 0), 1);
        // Of one HUM and one CASE: the sixth X leaves 0 by 4, the CASE is HEARD, FREE, and the DREAM wears.
        SleepingJudge z = Check.judgeOf("j3,1,1;d0,1;t2,0;v0,1,0;");
        z.forget(1);
        check.due("ahead of the hearing", z.drawn(5, 1, 1), 5);
        check.due("behind it", z.drawn(6, 1, 1), 1);
        check.due("FREE by it", z.drawn(6, 1, 0), 1);
        SleepingJudge y = Check.judgeOf("j3,0,1;d0;t1,0;t2,0;");
        // 16807 leaves 1 by 2; the sixth X, 470211272, leaves 0 by 4, and there are no CASES.
        check.due("no CASES", y.drawn(1, 1, 1), 5);
        check.due("no CASES, none FREE", y.drawn(60, 999999, 0), 0);
        check.due("no CASES, all THINGS", y.drawn(60, 999999, 1), 7);
    }

    private static void imagesAreKept() {
        SleepingJudge x = Check.judgeOf(TEXT);
        x.hum(0);
        x.hear(0);
        x.learn(0, 4);
        x.hum(0);
        check.due("kept", x.image(1), 1);
        check.due("ACTS stay", x.count(6), 4);
        check.due("none at 0", x.restore(0), STATE);
        x.undo();
        x.undo();
        x.appeal(0);
        check.due("as kept", x.restore(1), 1);
        check.due("no ACT", x.count(6), 0);
        check.due("undo", x.undo(), STATE);
        check.due("DREAM", x.stand(0), 19);
        check.due("hummed", x.stand(1), 1);
        check.due("GUILTY", x.stand(4), 1);
        check.due("NIGHT", x.count(4), 1);
        check.due("THING", x.ofHum(0, 0), 4);
        x.hear(1);
        check.due("kept yet", x.restore(1) + x.stand(0), 20);
        Check.read(x, "j3,0,9;d0;r1,0;");
        check.due("another at 0", x.image(0), 1);
        check.due("the first again", x.restore(1), 1);
        check.due("CASES", x.count(3), 3);
        check.due("HUMS in a NIGHT", x.hum(0) + x.hum(0) + x.hum(0), 19 + 19 + SleepingJudge.FULL);
        check.due("the other again", x.restore(0), 1);
        check.due("its CASES", x.count(3), 0);
        check.due("its THINGS", x.count(1), 3);
        check.due("its kind", x.kind(0), 4);
        check.due("image -1", x.image(-1), BAD);
        check.due("restore 2", x.restore(2), BAD);
    }

    private static void nothingChanges() {
        SleepingJudge x = withRows();
        x.hum(0);
        x.sleep(0, 0, 3);
        x.dreams(8, 0);
        x.least(48, 1, 2);
        x.save(1, 0);
        x.can(1, 8);
        x.order(0);
        x.first();
        x.who(0, 1, 0, 0, 1, 1, 3);
        x.began(1, 0, 0, 1, 1, 3);
        x.snored(6, 0, 0, 3);
        x.gone(0, 5, 0);
        x.drawn(60, 7, 0);
        check.due("DREAM", x.stand(0), 11);
        check.due("hummed", x.stand(1), 1);
        check.due("OPEN", x.stand(2), 7);
        check.due("NIGHT", x.count(4), 0);
        check.due("ACTS", x.count(6), 1);
        check.due("THING", x.ofHum(0, 0), 1);
    }
}
