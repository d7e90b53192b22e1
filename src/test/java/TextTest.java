/** Promises 1 (a new object) and 6 to 8 (feed, court, fault). */
public final class TextTest {
    private static final int BAD = SleepingJudge.BAD, STATE = SleepingJudge.STATE, FULL = SleepingJudge.FULL;
    private static final String LAW = "j4,2,3;", START = LAW + "d0,1;", ONE = START + "t0,1;";
    private static final Check check = new Check();

    public static void main(String[] args) {
        newObject();
        bytesAreFed();
        courtsAreRead();
        aCourtTakesThePlaceOfAnother();
        faultsOfTheLaw();
        faultsOfTheDream();
        faultsOfHums();
        faultsOfCases();
        faultsOfTokens();
        noRoom();
        aFaultLeavesAll();
        nothingStaysOnTheTape();
        theLongestTape();
        check.end();
    }

    private static void newObject() {
        SleepingJudge x = new SleepingJudge();
        for (int what = 0; what < 8; what++) {
            check.due("count of a new object " + what, x.count(what), 0);
        }
        check.due("fault", x.fault(), 0);
        check.due("status", x.status(), 0);
        check.due("stand", x.stand(0), STATE);
        check.due("undo", x.undo(), STATE);
        check.due("trace", x.trace(0), SleepingJudge.NONE);
    }

    private static void bytesAreFed() {
        SleepingJudge x = new SleepingJudge();
        check.due("-1", x.feed(-1), BAD);
        check.due("256", x.feed(256), BAD);
        check.due("0", x.feed(0), 1);
        check.due("255", x.feed(255), 2);
        for (int k = 3; k <= 120; k++) {
            check.due("byte " + k, x.feed('a'), k);
        }
        check.due("a byte more", x.feed('a'), FULL);
        check.due("BAD ahead of FULL", x.feed(256), BAD);
        check.due("bytes", x.count(7), 120);
        check.due("0 is no token", x.court(), -1000100);
        check.due("empty then", x.count(7), 0);
        check.due("room again", x.feed('j'), 1);
    }

    private static void read(String text, int hums, String counts) {
        SleepingJudge x = new SleepingJudge();
        check.due(text, Check.read(x, text), hums);
        StringBuilder got = new StringBuilder();
        for (int what = 1; what < 8; what++) {
            got.append(x.count(what)).append(' ');
        }
        check.due("counts of " + text, got.toString().trim(), counts);
        check.due("fault of " + text, x.fault(), 0);
    }

    private static void courtsAreRead() {
        read("j3,0,1;d0;t0,0;", 1, "3 1 0 0 1 0 0");
        read("j8,8,9;d7,7,0,7;f7,0;r0,7;", 2, "8 2 0 0 129 0 0");
        read("j03,00,09;d02;t01,00;v00,01,02;", 1, "3 1 1 0 4 0 0");
        read("j8,0,1;d0;t0,0;c1,1;s2,2;r3,3;f4,4;t5,5;v0,0,1;v1,1,2;v2,2,3;v3,3,4;v5,4,5;", 6, "8 6 5 0 1 0 0");
        SleepingJudge x = Check.judgeOf("j8,0,1;d0;t0,1;c2,3;s4,5;r6,7;f7,6;v4,3,2;");
        for (int hum = 0; hum < 5; hum++) {
            check.due("kind of " + hum, x.kind(hum), hum + 1);
        }
        check.due("THING", x.ofHum(2, 0), 4);
        check.due("OTHER", x.ofHum(2, 1), 5);
        check.due("PLEA, LOSES, WINS", 100 * x.ofCase(0, 0) + 10 * x.ofCase(0, 1) + x.ofCase(0, 2), 432);
    }

    private static void aCourtTakesThePlaceOfAnother() {
        SleepingJudge x = Check.judgeOf("j4,2,3;d0,1;t2,1;v0,3,2;");
        x.hum(0);
        x.hear(0);
        x.hum(0);
        x.image(0);
        x.ask(0, 1);
        check.due("a new one", Check.read(x, "j5,2,3;d4;t1,1;t2,2;v1,0,1;"), 2);
        check.due("DREAM", x.stand(0), 16);
        check.due("hummed", x.stand(1), 0);
        check.due("OPEN", x.stand(2), 1);
        check.due("NIGHT", x.count(4), 0);
        check.due("ACTS", x.count(6), 0);
        check.due("undo", x.undo(), STATE);
        check.due("THE TRACE stays", x.trace(0), 21);
        check.due("the IMAGE stays", x.restore(0), 1);
        check.due("DREAM of it", x.stand(0), 7);
    }

    private static void faulty(String text, int place, int number) {
        SleepingJudge x = new SleepingJudge();
        check.due(text, Check.read(x, text), -1000100 - place);
        check.due("fault of " + text, x.fault(), number);
        check.due("bytes behind " + text, x.count(7), 0);
        check.due("HUMS behind " + text, x.count(2), 0);
        check.due("stand behind " + text, x.stand(0), STATE);
    }

    private static void faultsOfTheLaw() {
        faulty("", 0, 1);
        faulty("d0;", 0, 1);
        faulty("4,2,3;", 0, 1);
        faulty("j", 1, 1);
        faulty("j,2,3;", 1, 1);
        faulty("j2,9,0;", 1, 2);
        faulty("j9,2,3;", 1, 2);
        faulty("j99,2,3;", 1, 2);
        faulty("j4;2,3;", 2, 1);
        faulty("j4,9,3;", 3, 2);
        faulty("j4,10,3;", 3, 2);
        faulty("j4,2,0;", 5, 2);
        faulty("j4,2,10;", 5, 2);
        faulty("j4,2,3", 6, 1);
        faulty("j4,2,3,1;", 6, 1);
    }

    private static void faultsOfTheDream() {
        faulty(LAW, 7, 1);
        faulty(LAW + "t0,0;", 7, 1);
        faulty(LAW + "d;", 8, 1);
        faulty(LAW + "d4;", 8, 2);
        faulty(LAW + "d0,4;", 10, 2);
        faulty(LAW + "d0,;", 10, 1);
        faulty(LAW + "d0t0,0;", 9, 1);
        faulty(LAW + "d0", 9, 1);
    }

    private static void faultsOfHums() {
        faulty(START, 12, 1);
        faulty(START + "v0,0,1;", 12, 1);
        faulty(START + "j4,2,3;", 12, 1);
        faulty(START + "x0,0;", 12, 1);
        faulty(START + "t4,0;", 13, 2);
        faulty(START + "t0;", 14, 1);
        faulty(START + "t0,4;", 15, 2);
        faulty(START + "t0,0,", 16, 1);
        faulty(START + "t0,0", 16, 1);
        faulty(ONE + "d0;", 17, 1);
        faulty(ONE + "t", 18, 1);
    }

    private static void faultsOfCases() {
        faulty(ONE + "v", 18, 1);
        faulty(ONE + "v1,0,1;", 18, 2);
        faulty(ONE + "v0,4,1;", 20, 2);
        faulty(ONE + "v0,0,4;", 22, 2);
        faulty(ONE + "v0,1,1;", 22, 2);
        faulty(ONE + "v0,1,01;", 22, 2);
        faulty(ONE + "v0,1,1", 22, 2);
        faulty(ONE + "v0,1;", 21, 1);
        faulty(ONE + "v0,0,1", 23, 1);
        faulty(ONE + "v0,0,1;t0,0;", 24, 1);
        faulty(ONE + "v0,0,1;,", 24, 1);
        faulty(ONE + "v0,0,1;0", 24, 1);
    }

    private static void faultsOfTokens() {
        faulty("j004,2,3;", 1, 1);
        faulty("j0004,2,3;", 1, 1);
        faulty("j4,2,3 ;", 6, 1);
        faulty(" j4,2,3;", 0, 1);
        faulty("J4,2,3;", 0, 1);
        faulty(ONE + "123", 17, 1);
        faulty(ONE + "v0,0,100;", 22, 1);
        faulty(ONE + (char) 233, 17, 1);
        faulty(ONE + (char) 0, 17, 1);
        faulty(ONE + ".", 17, 1);
        faulty("j4:2,3;", 2, 1);
        faulty("j/,2,3;", 1, 1);
    }

    private static void noRoom() {
        String six = START + "t0,0;".repeat(6);
        faulty(six + "r0,0;", 42, 3);
        faulty(six + "r", 42, 3);
        faulty(six + "x", 42, 1);
        faulty(ONE + "v0,0,1;".repeat(5) + "v", 52, 3);
        faulty(ONE + "v0,0,1;".repeat(5) + "t", 52, 1);
        faulty(six + "v0,0,1;t", 49, 1);
        check.due("six and five", Check.read(new SleepingJudge(), six + "v5,0,1;".repeat(5)), 6);
    }

    private static void aFaultLeavesAll() {
        SleepingJudge x = Check.judgeOf(ONE + "v0,3,0;");
        x.hum(0);
        check.due("faulty", Check.read(x, "j5,1,1;d4;c1,1;v0,0,0;"), -1000100 - 20);
        check.due("fault", x.fault(), 2);
        check.due("THINGS", x.count(1), 4);
        check.due("DREAM", x.stand(0), 3);
        check.due("hummed", x.stand(1), 1);
        check.due("kind", x.kind(0), 1);
        check.due("LOSES", x.ofCase(0, 1), 3);
        check.due("undo", x.undo(), 0);
        check.due("read again", Check.read(x, ONE), 1);
        check.due("the fault is the latest yet", x.fault(), 2);
        Check.read(x, "k");
        check.due("another", x.fault(), 1);
    }

    private static void nothingStaysOnTheTape() {
        SleepingJudge x = new SleepingJudge();
        check.due("long", Check.read(x, ONE + "t1,1;v0,0,1;v0,0,1;"), 2);
        check.due("the same, cut within a hum", Check.read(x, ONE + "t1,1"), -1000100 - 21);
        check.due("the same, cut within a number", Check.read(x, ONE + "t1,"), -1000100 - 20);
        check.due("the same, cut behind a hum", Check.read(x, ONE), 1);
        check.due("HUMS", x.count(2), 1);
        check.due("CASES", x.count(3), 0);
        check.due("a number with another behind it", Check.read(x, "j40000,1,1;"), -1000101);
        check.due("the same, cut", Check.read(x, "j4"), -1000102);
        Check.read(x, "j3,1,1;d0,1,2;t0,0;");
        Check.read(x, "j3,1,1;d1;t0,0;");
        check.due("the DREAM is told anew", x.stand(0), 2);
    }

    private static void theLongestTape() {
        String dreams = "j8,8,9;d" + "0,".repeat(53) + "7;t0,1;";
        check.due("as long as this", dreams.length(), 121);
        SleepingJudge x = new SleepingJudge();
        check.due("cut at 120", Check.read(x, dreams), -1000100 - 120);
        check.due("fault", x.fault(), 1);
        check.due("120", Check.read(x, dreams.replace("d0,", "d").replace("7;t", "07;t")), 1);
        check.due("DREAM", x.stand(0), 129);
        check.due("a number at the end", Check.read(x, dreams.replace(";t0,1;", ",0,00")), -1000100 - 120);
    }
}
