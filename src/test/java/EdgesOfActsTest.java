import java.util.ArrayList;
import java.util.List;

/** The boundary cases of what is done: promises 9 to 17, with part 2 of the Terms. */
public final class EdgesOfActsTest {
    private static final String COURT = "court j6,2,3;d0,3;t1,0;c5,2;s4,1;r0,0;f2,3;v0,3,1;v3,5,4;v4,1,2; = 5";
    /** One CASE that loses by 0 and wins by 1, a PLEA that does nothing to these, and no wear. */
    private static final String APPEAL = "court j4,4,9;d0,1;t0,0;t1,1;r2,2;v2,0,1; = 3";
    private static final Edges edges = new Edges();

    public static void main(String[] args) {
        dreamsByTunes();
        dreamsByCheese();
        dreamsBySteps();
        dreamsByRain();
        dreamsByFeathers();
        humsThatThereAre();
        humsOfANight();
        casesThatThereAre();
        casesThatAreOpen();
        verdicts();
        dreamsWear();
        nightsBehindHearings();
        appealsByWhatIsThere();
        appealsThatAreRefused();
        appealsLeaveTheRest();
        thingsAreForgotten();
        humsAreLearnt();
        humsAreSeen();
        casesAreSeen();
        theCourtIsSeen();
        nothingToUndo();
        eachActIsUndone();
        only24AreKept();
        edges.end(9, 10, 11, 12, 13, 14, 15, 16, 17);
    }

    /** One HUM in a DREAM: what it is by it, foretold and hummed. */
    private static void by(String sentence, int things, String hum, String dream, int then) {
        edges.of(10, sentence, "court j" + things + ",0,1;d" + dream + ";" + hum + "; = 1", "ofHum(0, 2) = " + then,
            "hum(0) = " + then, "stand(0) = " + then, "count(5) = " + then);
    }

    private static void dreamsByTunes() {
        by("by a tune THING is there then", 4, "t1,0", "0", 3);
        by("by a tune THING is there yet, if it was", 4, "t1,0", "1", 2);
        by("by a tune OTHER is nothing to it", 4, "t1,3", "0", 3);
        by("by a tune the last THING of 8", 8, "t7,0", "0", 129);
        by("by a tune the first THING", 3, "t0,2", "2", 5);
    }

    private static void dreamsByCheese() {
        by("by cheese THING and the one behind it", 4, "c1,0", "0", 7);
        by("by cheese the one ahead of the last, and the last", 4, "c2,0", "0", 13);
        by("by cheese the last of 4, and 0 behind it", 4, "c3,0", "1", 11);
        by("by cheese the last of 3, and 0 behind it", 3, "c2,0", "1", 7);
        by("by cheese the last of 8, and 0 behind it", 8, "c7,0", "1", 131);
        by("by cheese the one ahead of the last of 8", 8, "c6,0", "1", 194);
        by("by cheese the first, and 1 behind it", 8, "c0,7", "2", 7);
        by("by cheese both are there yet, if they were", 4, "c3,0", "0,3", 9);
        by("by cheese OTHER is nothing to it", 4, "c0,3", "3", 11);
    }

    private static void dreamsBySteps() {
        by("by steps as by a tune, if OTHER is there", 4, "s1,0", "0", 3);
        by("by steps the DREAM stays, if OTHER is not there", 4, "s1,2", "0", 1);
        by("by steps the DREAM stays, if but THING is there", 4, "s1,2", "1", 2);
        by("by steps OTHER stays there", 8, "s0,7", "7", 129);
        by("by steps of alike THINGS, there", 4, "s1,1", "1", 2);
        by("by steps of alike THINGS, not there", 4, "s1,1", "0", 1);
    }

    private static void dreamsByRain() {
        by("by rain OTHER is not there then", 4, "r1,0", "0,3", 8);
        by("by rain OTHER is not there yet, if it was not", 4, "r1,2", "0,3", 9);
        by("by rain THING is nothing to it", 4, "r3,0", "0,3", 8);
        by("by rain nothing is dreamt", 4, "r2,2", "2", 0);
        by("by rain the last OTHER of 8", 8, "r0,7", "0,7", 1);
    }

    private static void dreamsByFeathers() {
        by("by a feather OTHER is not there, and THING is", 4, "f1,0", "0,3", 10);
        by("by a feather the DREAM stays, if OTHER was not there", 4, "f1,2", "0,3", 9);
        by("by a feather THING stays, if OTHER was not there", 4, "f1,2", "1", 2);
        by("by a feather THING is there yet, if it was", 4, "f3,0", "0,3", 8);
        by("by a feather of alike THINGS, there", 4, "f0,0", "0,3", 9);
        by("by a feather of alike THINGS, not there", 4, "f2,2", "0,3", 9);
        by("by a feather from the last of 8 to the first", 8, "f0,7", "7", 1);
        by("by a feather from the first to the last of 8", 8, "f7,0", "0", 128);
    }

    private static void humsThatThereAre() {
        edges.of(10, "HUMS are those told", COURT, "hum(0) = 11", "hum(4) = 7", "hum(5) = BAD", "hum(-1) = BAD", "hum(MOST) = BAD",
            "hum(LEAST) = BAD", "stand(1) = 2");
        edges.of(10, "one HUM alone", "court j3,0,9;d0;t1,0; = 1", "hum(0) = 3", "hum(1) = BAD", "hum(-1) = BAD");
        edges.of(10, "six HUMS", "court j8,0,9;d0;t1,0;t2,0;t3,0;t4,0;t5,0;t6,0; = 6", "hum(5) = 65", "hum(6) = BAD");
        edges.of(10, "no COURT", "hum(0) = BAD", "hum(-1) = BAD");
    }

    private static void humsOfANight() {
        edges.of(10, "one HUM in a NIGHT", "court j3,0,1;d0;t1,0;t2,0; = 2", "hum(0) = 3", "hum(1) = FULL", "hum(0) = FULL",
            "stand(0) = 3", "stand(1) = 1");
        edges.of(10, "three HUMS in a NIGHT", COURT, "hum(0) = 11", "hum(1) = 43", "hum(2) = 59", "hum(3) = FULL", "stand(1) = 3",
            "count(6) = 3");
        edges.of(10, "nine HUMS in a NIGHT", "court j3,0,9;d0;t1,0;r0,1; = 2", "hum(0) = 3", "hum(1) = 1", "hum(0) = 3",
            "hum(1) = 1", "hum(0) = 3", "hum(1) = 1", "hum(0) = 3", "hum(1) = 1", "stand(1) = 8", "hum(0) = 3", "hum(1) = FULL",
            "stand(1) = 9");
        edges.of(10, "BAD comes ahead of FULL", "court j3,0,1;d0;t1,0; = 1", "hum(0) = 3", "hum(1) = BAD", "hum(-1) = BAD",
            "hum(0) = FULL");
        edges.of(10, "a HUM that leaves the DREAM is hummed, too", "court j3,0,1;d0;s1,1; = 1", "hum(0) = 1", "stand(1) = 1",
            "count(6) = 1", "hum(0) = FULL");
        edges.of(10, "other ACTS are not hummed", COURT, "learn(0, 2) = 1", "forget(0) = 8", "stand(1) = 0", "hum(0) = 12", "hum(0) = 12",
            "hum(0) = 12", "hum(0) = FULL");
        edges.of(10, "an undone HUM was not hummed", "court j3,0,1;d0;t1,0;t2,0; = 2", "hum(0) = 3", "undo() = 0", "stand(1) = 0",
            "hum(1) = 5", "hum(0) = FULL");
        edges.of(10, "nothing was hummed in another NIGHT", "court j3,3,1;d0;t1,0;v0,2,0; = 1", "hum(0) = 3", "hum(0) = FULL",
            "hear(0) = 1", "stand(1) = 0", "hum(0) = 3", "hum(0) = FULL");
        edges.of(10, "a FULL NIGHT is FULL again, if the hearing is undone", "court j3,3,1;d0;t1,0;v0,2,0; = 1", "hum(0) = 3",
            "hear(0) = 1", "undo() = 1", "stand(1) = 1", "hum(0) = FULL");
    }

    private static void casesThatThereAre() {
        edges.of(11, "CASES are those told", COURT, "hear(2) = 1", "hear(3) = BAD", "hear(-1) = BAD", "hear(MOST) = BAD",
            "hear(LEAST) = BAD", "count(4) = 1");
        edges.of(11, "five CASES", "court j3,0,1;d0;r0,0;v0,0,1;v0,0,1;v0,0,1;v0,0,1;v0,0,1; = 1", "hear(4) = 0", "hear(5) = BAD",
            "hear(0) = 0", "count(4) = 2");
        edges.of(11, "no CASE, and no COURT", "hear(0) = BAD", "court j3,0,1;d0;r0,0; = 1", "hear(0) = BAD", "hear(-1) = BAD",
            "count(4) = 0");
    }

    private static void casesThatAreOpen() {
        edges.of(11, "STATE: one that is FREE", COURT, "hear(2) = 1", "hear(2) = STATE", "count(4) = 1", "count(6) = 1");
        edges.of(11, "STATE: one that is GUILTY", COURT, "hear(0) = 2", "hear(0) = STATE", "count(4) = 1");
        edges.of(11, "STATE: one that is GUILTY for good", APPEAL, "hear(0) = 2", "appeal(0) = 0", "hear(0) = STATE", "count(4) = 1");
        edges.of(11, "one that stays OPEN is HEARD again", COURT, "hear(1) = 0", "hear(1) = 0", "hear(1) = 0", "count(4) = 3",
            "stand(2) = 7");
        edges.of(11, "one that is OPEN again is HEARD again", APPEAL, "hear(0) = 2", "forget(0) = 2", "appeal(0) = 1", "hear(0) = 1",
            "stand(3) = 1", "count(4) = 2");
        edges.of(11, "one alone is no more OPEN", COURT, "hear(0) = 2", "stand(2) = 6", "stand(4) = 1", "stand(3) = 0");
    }

    private static void verdicts() {
        String court = "court j4,4,1;d3;r3,3;v0,0,1; = 1";
        edges.of(11, "OPEN, if neither is there", court, "ofCase(0, 4) = 0", "hear(0) = 0", "ofCase(0, 3) = 0");
        edges.of(11, "FREE, if WINS is there", court.replace("d3", "d1"), "ofCase(0, 4) = 1", "hear(0) = 1", "ofCase(0, 3) = 1");
        edges.of(11, "GUILTY, if LOSES is there", court.replace("d3", "d0"), "ofCase(0, 4) = 2", "hear(0) = 2", "ofCase(0, 3) = 2");
        edges.of(11, "GUILTY, if both are there", court.replace("d3", "d0,1"), "ofCase(0, 4) = 2", "hear(0) = 2", "ofCase(0, 3) = 2");
        edges.of(11, "its PLEA is hummed ahead: it brings WINS", "court j4,4,1;d3;t1,1;v0,0,1; = 1", "hear(0) = 1", "stand(0) = 10");
        edges.of(11, "its PLEA is hummed ahead: it brings LOSES", "court j4,4,1;d1;t0,0;v0,0,1; = 1", "hear(0) = 2", "stand(0) = 3");
        edges.of(11, "its PLEA is hummed ahead: it takes LOSES", "court j4,4,1;d0,1;r0,0;v0,0,1; = 1", "hear(0) = 1", "stand(0) = 2");
        edges.of(11, "its PLEA is hummed ahead: it takes WINS", "court j4,4,1;d1;r0,1;v0,0,1; = 1", "hear(0) = 0", "stand(0) = 0");
        edges.of(11, "LOSES and WINS are the last THING of 8 and the first", "court j8,8,1;d7;r3,3;v0,7,0;v0,0,7; = 1", "hear(0) = 2",
            "hear(1) = 1");
    }

    private static void dreamsWear() {
        String five = ",1;d0,1,3,4,5;r2,2;v0,2,0; = 1";
        edges.of(11, "WEARS 0: nothing is there", "court j6,0" + five, "hear(0) = 1", "stand(0) = 0");
        edges.of(11, "WEARS 1: the least number", "court j6,1" + five, "hear(0) = 1", "stand(0) = 1");
        edges.of(11, "WEARS one less than there are: the greatest goes", "court j6,4" + five, "hear(0) = 1", "stand(0) = 27");
        edges.of(11, "WEARS as many as there are: all stay", "court j6,5" + five, "hear(0) = 1", "stand(0) = 59");
        edges.of(11, "WEARS one more than there are: all stay", "court j6,6" + five, "hear(0) = 1", "stand(0) = 59");
        edges.of(11, "WEARS more than THINGS: all stay", "court j6,8" + five, "hear(0) = 1", "stand(0) = 59");
        edges.of(11, "WEARS 8 of 8, and 7 of 8", "court j8,8,1;d0,1,2,3,4,5,6,7;t0,0;v0,0,1; = 1", "hear(0) = 2", "stand(0) = 255",
            "court j8,7,1;d0,1,2,3,4,5,6,7;t0,0;v0,0,1; = 1", "hear(0) = 2", "stand(0) = 127");
        edges.of(11, "the least numbers stay, though the PLEA brings the greatest", "court j8,1,1;d7;t6,6;v0,0,7; = 1", "hear(0) = 1",
            "stand(0) = 64");
        edges.of(11, "a DREAM wears behind any VERDICT", "court j4,1,1;d2,3;r0,0;v0,0,1;v0,2,3;v0,1,2; = 1", "hear(0) = 0",
            "stand(0) = 4", "court j4,1,1;d2,3;r0,0;v0,0,1;v0,2,3;v0,1,2; = 1", "hear(1) = 2", "stand(0) = 4",
            "court j4,1,1;d2,3;r0,0;v0,0,1;v0,2,3;v0,1,2; = 1", "hear(2) = 1", "stand(0) = 4");
        edges.of(11, "the VERDICT comes ahead of the wear", "court j4,0,1;d0;t1,1;v0,2,1; = 1", "hear(0) = 1", "stand(0) = 0");
        edges.of(11, "a DREAM of nothing wears to nothing", "court j4,3,1;d0;r0,0;v0,1,2; = 1", "hear(0) = 0", "stand(0) = 0");
        edges.of(11, "HUMS alone do not wear", "court j4,0,9;d0;t1,1;v0,2,1; = 1", "hum(0) = 3", "hum(0) = 3", "stand(0) = 3");
    }

    private static void nightsBehindHearings() {
        edges.of(11, "NIGHT is 1 more behind any VERDICT", COURT, "count(4) = 0", "hear(2) = 1", "count(4) = 1", "hear(1) = 0",
            "count(4) = 2", COURT, "hear(0) = 2", "count(4) = 1");
        edges.of(11, "a PLEA is not counted: a FULL NIGHT is no bar", "court j4,4,1;d0;t1,1;t2,2;v1,3,0; = 2", "hum(0) = 3",
            "hum(1) = FULL", "hear(0) = 1", "stand(0) = 7", "stand(1) = 0");
        edges.of(11, "a PLEA is not counted: nothing was hummed behind it", "court j4,4,2;d0;t1,1;v0,3,2; = 1", "hear(0) = 0",
            "stand(1) = 0", "hum(0) = 3", "hum(0) = 3", "hum(0) = FULL", "hear(0) = 0", "stand(1) = 0");
        edges.of(11, "a PLEA is not an ACT of its own", COURT, "hear(1) = 0", "count(6) = 1");
    }

    private static void appealsByWhatIsThere() {
        edges.of(12, "OPEN again, if WINS is there and LOSES is not", APPEAL, "hear(0) = 2", "forget(0) = 2", "appeal(0) = 1",
            "ofCase(0, 3) = 0", "stand(2) = 1", "stand(4) = 0");
        edges.of(12, "for good, if both are there", APPEAL, "hear(0) = 2", "appeal(0) = 0", "ofCase(0, 3) = 3", "stand(2) = 0",
            "stand(4) = 1");
        edges.of(12, "for good, if LOSES alone is there", APPEAL, "hear(0) = 2", "forget(1) = 1", "appeal(0) = 0", "ofCase(0, 3) = 3");
        edges.of(12, "for good, if neither is there", APPEAL, "hear(0) = 2", "forget(1) = 1", "forget(0) = 0", "appeal(0) = 0",
            "ofCase(0, 3) = 3");
        edges.of(12, "its PLEA is not hummed: it would bring WINS", "court j4,0,9;d0;t1,1;v0,0,1; = 1", "hear(0) = 2", "stand(0) = 0",
            "ofCase(0, 4) = 1", "appeal(0) = 0", "stand(0) = 0");
        edges.of(12, "its PLEA is not hummed: it would bring LOSES", "court j4,4,9;d1;t0,0;v0,0,1; = 1", "hear(0) = 2", "forget(0) = 2",
            "ofCase(0, 4) = 2", "appeal(0) = 1", "stand(0) = 2");
        edges.of(12, "again GUILTY, it is appealed again", APPEAL, "hear(0) = 2", "forget(0) = 2", "appeal(0) = 1", "hum(0) = 3",
            "hear(0) = 2", "appeal(0) = 0", "appeal(0) = STATE");
    }

    private static void appealsThatAreRefused() {
        edges.of(12, "CASES are those told", COURT, "hear(0) = 2", "appeal(-1) = BAD", "appeal(3) = BAD", "appeal(MOST) = BAD",
            "appeal(LEAST) = BAD", "appeal(0) = 1");
        edges.of(12, "no CASE, and no COURT", "appeal(0) = BAD", "court j3,0,1;d0;r0,0; = 1", "appeal(0) = BAD");
        edges.of(12, "STATE: one that is OPEN", COURT, "appeal(0) = STATE", "hear(1) = 0", "appeal(1) = STATE");
        edges.of(12, "STATE: one that is OPEN again", APPEAL, "hear(0) = 2", "forget(0) = 2", "appeal(0) = 1", "appeal(0) = STATE");
        edges.of(12, "STATE: one that is FREE", COURT, "hear(2) = 1", "appeal(2) = STATE");
        edges.of(12, "STATE: one that was appealed in vain, whatever is there", APPEAL, "hear(0) = 2", "appeal(0) = 0",
            "forget(0) = 2", "appeal(0) = STATE");
    }

    private static void appealsLeaveTheRest() {
        edges.of(12, "DREAM, NIGHT and what was hummed stay", "court j4,4,9;d0,1;t0,0;t1,1;r2,2;v2,0,1;v2,0,2; = 3", "hear(0) = 2",
            "hear(1) = 2", "hum(1) = 3", "appeal(0) = 0", "stand(0) = 3", "stand(1) = 1", "count(4) = 2", "ofCase(1, 3) = 2",
            "count(6) = 4");
        edges.of(12, "a FULL NIGHT is no bar", "court j4,4,1;d0,1;r2,2;v0,0,1; = 1", "hear(0) = 2", "hum(0) = 3", "hum(0) = FULL",
            "appeal(0) = 0");
    }

    private static void thingsAreForgotten() {
        edges.of(13, "THINGS are those told", "court j3,0,1;d0,2;t0,0; = 1", "forget(2) = 1", "forget(3) = BAD", "forget(-1) = BAD",
            "forget(32) = BAD", "forget(MOST) = BAD", "forget(LEAST) = BAD", "forget(0) = 0");
        edges.of(13, "the last THING of 8", "court j8,0,1;d0,7;t0,0; = 1", "forget(7) = 1", "forget(7) = STATE", "forget(8) = BAD");
        edges.of(13, "STATE: it is not there", COURT, "forget(1) = STATE", "forget(0) = 8", "forget(0) = STATE", "forget(3) = 0",
            "forget(3) = STATE", "count(6) = 2");
        edges.of(13, "no COURT", "forget(0) = BAD", "forget(-1) = BAD");
        edges.of(13, "nothing is hummed, no NIGHT goes by", COURT, "forget(0) = 8", "stand(1) = 0", "count(4) = 0", "count(6) = 1");
        edges.of(13, "a FULL NIGHT is no bar", "court j3,0,1;d0;t1,0; = 1", "hum(0) = 3", "hum(0) = FULL", "forget(1) = 1");
        edges.of(13, "what was forgotten can be brought", "court j3,0,1;d1;t1,0; = 1", "forget(1) = 0", "hum(0) = 2", "forget(1) = 0");
    }

    private static void humsAreLearnt() {
        edges.of(14, "HUMS are those told", COURT, "learn(0, 2) = 1", "learn(4, 2) = 2", "learn(5, 2) = BAD", "learn(-1, 2) = BAD",
            "learn(MOST, 2) = BAD", "learn(LEAST, 2) = BAD", "count(6) = 2");
        edges.of(14, "THINGS are those told", COURT, "learn(0, 0) = 1", "learn(0, 5) = 0", "learn(0, 6) = BAD", "learn(0, -1) = BAD",
            "learn(0, MOST) = BAD", "learn(0, LEAST) = BAD", "ofHum(0, 0) = 5");
        edges.of(14, "no COURT", "learn(0, 0) = BAD");
        edges.of(14, "the THING that it has already is taken", COURT, "learn(0, 1) = 1", "ofHum(0, 0) = 1", "count(6) = 1", "undo() = 0");
        edges.of(14, "THING alone is another: KIND, OTHER, DREAM stay", COURT, "learn(1, 3) = 5", "kind(1) = 2", "ofHum(1, 1) = 2",
            "ofHum(1, 0) = 3", "ofHum(1, 2) = 25", "stand(0) = 9", "stand(1) = 0", "ofHum(0, 0) = 1", "ofHum(2, 0) = 4");
        edges.of(14, "THING may be OTHER, too", COURT, "learn(4, 3) = 2", "ofHum(4, 2) = 9", "hum(4) = 9");
        edges.of(14, "cheese learnt to the last THING brings 0, too", COURT, "forget(0) = 8", "learn(1, 4) = 5", "ofHum(1, 2) = 56",
            "learn(1, 5) = 4", "ofHum(1, 2) = 41");
        edges.of(14, "a PLEA is hummed as learnt", "court j4,4,1;d3;t1,1;v0,0,2; = 1", "ofCase(0, 4) = 0", "learn(0, 2) = 1",
            "ofCase(0, 4) = 1", "learn(0, 0) = 2", "hear(0) = 2");
        edges.of(14, "a FULL NIGHT is no bar", "court j3,0,1;d0;t1,0; = 1", "hum(0) = 3", "hum(0) = FULL", "learn(0, 2) = 1");
    }

    private static void humsAreSeen() {
        edges.of(15, "what is 0 to 2", COURT, "ofHum(4, 0) = 2", "ofHum(4, 1) = 3", "ofHum(4, 2) = 5", "ofHum(4, 3) = BAD",
            "ofHum(4, -1) = BAD", "ofHum(4, MOST) = BAD", "ofHum(4, LEAST) = BAD");
        edges.of(15, "HUMS are those told", COURT, "ofHum(0, 0) = 1", "ofHum(5, 0) = BAD", "ofHum(-1, 0) = BAD", "ofHum(MOST, 0) = BAD",
            "ofHum(LEAST, 0) = BAD", "ofHum(5, 3) = BAD");
        edges.of(15, "no COURT", "ofHum(0, 0) = BAD", "ofHum(0, 2) = BAD");
        edges.of(15, "the DREAM by it now, whatever the NIGHT", "court j3,0,1;d0;t1,0;t2,0; = 2", "hum(0) = 3", "ofHum(1, 2) = 7",
            "hum(1) = FULL", "ofHum(1, 2) = 7", "stand(0) = 3");
    }

    private static void casesAreSeen() {
        edges.of(16, "what is 0 to 4", COURT, "ofCase(2, 0) = 4", "ofCase(2, 1) = 1", "ofCase(2, 2) = 2", "ofCase(2, 3) = 0",
            "ofCase(2, 4) = 1", "ofCase(2, 5) = BAD", "ofCase(2, -1) = BAD", "ofCase(2, MOST) = BAD", "ofCase(2, LEAST) = BAD");
        edges.of(16, "CASES are those told", COURT, "ofCase(0, 0) = 0", "ofCase(3, 0) = BAD", "ofCase(-1, 0) = BAD",
            "ofCase(MOST, 0) = BAD", "ofCase(LEAST, 0) = BAD");
        edges.of(16, "no CASE, and no COURT", "ofCase(0, 0) = BAD", "court j3,0,1;d0;r0,0; = 1", "ofCase(0, 0) = BAD");
        edges.of(16, "how it is: OPEN, FREE, GUILTY, GUILTY for good", COURT, "ofCase(2, 3) = 0", "hear(2) = 1", "ofCase(2, 3) = 1",
            APPEAL, "hear(0) = 2", "ofCase(0, 3) = 2", "appeal(0) = 0", "ofCase(0, 3) = 3");
        edges.of(16, "the VERDICT, were it HEARD now, OPEN or not", APPEAL, "ofCase(0, 4) = 2", "hear(0) = 2", "forget(0) = 2",
            "ofCase(0, 4) = 1", "forget(1) = 0", "ofCase(0, 4) = 0", "appeal(0) = 0", "hum(1) = 2", "ofCase(0, 4) = 1",
            "ofCase(0, 3) = 3");
    }

    private static void theCourtIsSeen() {
        edges.of(17, "STATE: no COURT, ahead of BAD", "stand(0) = STATE", "stand(4) = STATE", "stand(5) = STATE", "stand(-1) = STATE",
            "stand(LEAST) = STATE");
        edges.of(17, "what is 0 to 4", COURT, "stand(0) = 9", "stand(1) = 0", "stand(2) = 7", "stand(3) = 0", "stand(4) = 0",
            "stand(5) = BAD", "stand(-1) = BAD", "stand(MOST) = BAD", "stand(LEAST) = BAD");
        edges.of(17, "CASES of each way", COURT, "hear(2) = 1", "stand(2) = 3", "stand(3) = 4", "stand(4) = 0", "hear(0) = 1",
             "stand(2) = 2", "stand(3) = 5");
        edges.of(17, "GUILTY, and for good, too", "court j4,4,9;d0,1;r2,2;v0,0,1;v0,0,2; = 1", "hear(0) = 2", "hear(1) = 2",
            "stand(4) = 3", "appeal(0) = 0", "stand(4) = 3", "ofCase(0, 3) = 3", "ofCase(1, 3) = 2");
        edges.of(17, "the fifth CASE is bit 4", "court j3,0,1;d0;t0,0;v0,1,0;v0,1,0;v0,1,0;v0,1,0;v0,1,0; = 1", "stand(2) = 31",
            "hear(4) = 1", "stand(2) = 15", "stand(3) = 16");
        edges.of(17, "what was hummed in this NIGHT, whatever in others", COURT, "hum(0) = 11", "stand(1) = 1", "hum(0) = 11",
            "stand(1) = 2", "hear(0) = 2", "stand(0) = 3", "stand(1) = 0", "hear(1) = 0", "stand(0) = 2", "stand(1) = 0",
            "hum(0) = 2", "stand(1) = 1");
        edges.of(17, "no CASES", "court j3,0,1;d2;r0,0; = 1", "stand(0) = 4", "stand(1) = 0", "stand(2) = 0", "stand(3) = 0",
            "stand(4) = 0");
    }

    private static void nothingToUndo() {
        edges.of(9, "STATE: no COURT, and none at first", "undo() = STATE", COURT, "undo() = STATE", "count(6) = 0");
        edges.of(9, "STATE: all are undone", COURT, "hum(0) = 11", "undo() = 0", "undo() = STATE", "stand(0) = 9");
        edges.of(9, "STATE: another COURT was read", COURT, "hum(0) = 11", COURT, "undo() = STATE", "stand(0) = 9");
        edges.of(9, "STATE: an IMAGE was restored", COURT, "image(0) = 1", "hum(0) = 11", "hum(0) = 11", "restore(0) = 1",
            "undo() = STATE", "stand(0) = 9");
        edges.of(9, "an IMAGE that is kept leaves the ACTS", COURT, "hum(0) = 11", "image(0) = 1", "undo() = 0", "stand(0) = 9");
        edges.of(9, "a FAULT leaves the ACTS", COURT, "hum(0) = 11", "court j = fault 1 at 1", "undo() = 0", "stand(0) = 9");
        edges.of(9, "what is refused is no ACT", COURT, "hum(5) = BAD", "hear(3) = BAD", "hear(2) = 1", "hear(2) = STATE",
            "appeal(2) = STATE", "forget(5) = STATE", "forget(6) = BAD", "learn(0, 6) = BAD", "hum(0) = 7", "hum(0) = 7", "hum(0) = 7",
            "hum(0) = FULL", "count(6) = 4", "undo() = 3", "undo() = 2", "undo() = 1", "undo() = 0", "undo() = STATE",
            "stand(2) = 7", "stand(0) = 9");
        edges.of(9, "what only asks is no ACT", COURT, "ask(0, 0) = 3", "image(0) = 1", "ints 0: 0", "sleep(0, 0, 1) = 11",
            "drawn(8, 1, 0) = 1", "count(6) = 0", "undo() = STATE");
    }

    private static void eachActIsUndone() {
        edges.of(9, "a HUM is undone", COURT, "hum(1) = 41", "hum(3) = 40", "undo() = 1", "stand(0) = 41", "stand(1) = 1", "undo() = 0",
            "stand(0) = 9", "stand(1) = 0");
        edges.of(9, "a hearing is undone, with NIGHT, DREAM and what was hummed", COURT, "hum(1) = 41", "hear(2) = 1", "stand(0) = 5",
            "undo() = 1", "stand(0) = 41", "stand(1) = 1", "count(4) = 0", "stand(2) = 7", "stand(3) = 0", "hear(2) = 1");
        edges.of(9, "NIGHT is as it was ahead of any ACT", COURT, "hear(1) = 0", "hear(1) = 0", "hear(1) = 0", "undo() = 2", "count(4) = 2",
            "hum(0) = 10", "undo() = 2", "count(4) = 2", "forget(3) = 0", "undo() = 2", "count(4) = 2", "undo() = 1", "count(4) = 1",
            "undo() = 0", "count(4) = 0");
        edges.of(9, "a hearing that left a CASE OPEN is undone", COURT, "hear(1) = 0", "undo() = 0", "stand(0) = 9", "count(4) = 0");
        edges.of(9, "an appeal is undone: GUILTY again", APPEAL, "hear(0) = 2", "forget(0) = 2", "appeal(0) = 1", "undo() = 2",
            "ofCase(0, 3) = 2", "hear(0) = STATE", "appeal(0) = 1");
        edges.of(9, "an appeal in vain is undone: it can be appealed again", APPEAL, "hear(0) = 2", "appeal(0) = 0", "undo() = 1",
            "ofCase(0, 3) = 2", "forget(0) = 2", "appeal(0) = 1");
        edges.of(9, "what was forgotten is there again", COURT, "forget(3) = 1", "undo() = 0", "stand(0) = 9");
        edges.of(9, "what was learnt is as it was", COURT, "learn(4, 5) = 2", "learn(4, 0) = 5", "undo() = 1", "ofHum(4, 0) = 5",
            "undo() = 0", "ofHum(4, 0) = 2");
        edges.of(9, "the latest first", COURT, "learn(0, 5) = 1", "hum(0) = 41", "forget(0) = 40", "undo() = 2", "stand(0) = 41",
            "ofHum(0, 0) = 5", "undo() = 1", "stand(0) = 9", "ofHum(0, 0) = 5", "undo() = 0", "ofHum(0, 0) = 1");
        edges.of(9, "THE TRACE, ROWS, IMAGES and the tape are not undone", COURT, "hum(0) = 11", "ask(0, 1) = 3", "ints 0: 1",
            "image(0) = 1", "tape j", "undo() = 0", "trace(0) = 21", "count(0) = 1", "count(7) = 1", "restore(0) = 1", "stand(0) = 11");
    }

    /** So many times a HUM learns the THING behind its own (of four). */
    private static void addLearning(List<String> lines, int from, int many) {
        for (int k = from; k < from + many; k++) {
            lines.add("learn(0, " + (k + 1) % 4 + ") = " + k % 4);
        }
    }

    private static void addUndoing(List<String> lines, int from, int many) {
        for (int k = from - 1; k >= from - many; k--) {
            lines.add("undo() = " + k);
        }
    }

    private static void only24AreKept() {
        String court = "court j4,0,1;d0;t0,0;v0,1,2; = 1";
        for (int many = 23; many <= 27; many++) {
            List<String> lines = new ArrayList<>(List.of(court));
            addLearning(lines, 0, many);
            lines.add("count(6) = " + Math.min(many, 24));
            addUndoing(lines, Math.min(many, 24), Math.min(many, 24));
            lines.addAll(List.of("undo() = STATE", "ofHum(0, 0) = " + Math.max(many - 24, 0) % 4));
            edges.of(9, "24 ACTS at most are kept, of " + many, lines.toArray(new String[0]));
        }
        List<String> lines = new ArrayList<>(List.of(court));
        addLearning(lines, 0, 24);
        lines.addAll(List.of("undo() = 23", "undo() = 22", "hum(0) = 5", "hear(0) = 1", "count(6) = 24"));
        addUndoing(lines, 24, 24);
        lines.addAll(List.of("undo() = STATE", "ofHum(0, 0) = 0", "stand(0) = 1", "count(4) = 0"));
        edges.of(9, "what is undone makes room for others", lines.toArray(new String[0]));
        lines = new ArrayList<>(List.of(court, "hum(0) = 1"));
        addLearning(lines, 0, 24);
        addUndoing(lines, 24, 24);
        lines.addAll(List.of("undo() = STATE", "stand(1) = 1", "hum(0) = FULL"));
        edges.of(9, "the oldest is forgotten, not the latest: a HUM stays hummed", lines.toArray(new String[0]));
    }
}
