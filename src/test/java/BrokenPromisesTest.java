import java.io.File;
import java.io.IOException;
import java.io.OutputStream;
import java.io.PrintStream;
import java.lang.reflect.Field;
import java.lang.reflect.InvocationTargetException;
import java.net.URL;
import java.net.URLClassLoader;
import java.nio.file.Files;
import java.nio.file.Path;
import java.util.ArrayList;
import java.util.List;
import java.util.Set;
import java.util.TreeSet;
import java.util.stream.Collectors;
import javax.tools.ToolProvider;

/**
 * For each promise there is a test that fails if it is broken: the class is broken in one line after another, and the
 * sentences of that promise in EdgesOf*Test, and no others, must notice it.
 */
public final class BrokenPromisesTest {
    private static final Path SOURCE = Path.of("src/main/java/SleepingJudge.java");
    private static final String[] TESTS = {"EdgesOfRowsTest", "EdgesOfTextTest", "EdgesOfActsTest", "EdgesOfForetellingTest",
        "EdgesOfFittingTest", "EdgesOfAskingTest", "EdgesOfRefusalsTest"};

    /** One text of the class, the first behind the place where a member begins, and what stands there instead. */
    private record Break(int promise, String member, String text, String instead) {
        String told() {
            return "promise " + promise + ", broken in " + member + " by " + instead + " for " + text;
        }
    }

    private final List<Break> breaks = new ArrayList<>();
    private final String source;
    private final Path folder;

    private BrokenPromisesTest(String source, Path folder) {
        this.source = source;
        this.folder = folder;
    }

    public static void main(String[] args) throws IOException {
        Path folder = Files.createTempDirectory("broken");
        try {
            BrokenPromisesTest test = new BrokenPromisesTest(Files.readString(SOURCE), folder);
            test.rows();
            test.told();
            test.done();
            test.seen();
            test.foretold();
            test.casesAndHums();
            test.fitted();
            test.chancesDrawsAndImages();
            test.asked();
            test.allAreNoticed();
        } finally {
            remove(folder.toFile());
        }
    }

    private void breaks(int promise, String member, String text, String instead) {
        breaks.add(new Break(promise, member, text, instead));
    }

    // ---- how it is broken

    private void rows() {
        breaks(1, "class Court {", "int thingCount, ", "int thingCount = 3, ");
        breaks(1, "class Rows {", "lanes = {MISSING", "lanes = {0");
        breaks(1, "class SleepingJudge {", "int latestFault;", "int latestFault = 1;");
        breaks(1, "class SleepingJudge {", "int latestFinding;", "int latestFinding = 1;");
        breaks(2, "int row(", "return fine(n)", "return fine(row)");
        breaks(2, "int row(", "n > Rows.LONGEST", "n >= Rows.LONGEST");
        breaks(2, "int row(", "n > Rows.LONGEST", "n > 100");
        breaks(2, "int row(", "return found(SIZE)", "return BAD");
        breaks(2, "int row(", " || !rows.isLane(lane)", "");
        breaks(2, "void make(", "Arrays.fill(items[row], 0);", "");
        breaks(3, "int put(", "(byte) v", "v");
        breaks(3, "int put(", "(short) v", "v");
        breaks(3, "int put(", "lanes[row] == 0 ? (byte) v", "lanes[row] == 0 ? v & 255");
        breaks(3, "int put(", "return items[row][i];", "return v;");
        breaks(3, "int set(", "return BAD;", "return found(NULL);");
        breaks(3, "int lookedAt(", "return NULL;", "return PLACE;");
        breaks(3, "int lookedAt(", "i > lengths[row] - n", "i > lengths[row]");
        breaks(4, "void move(", "System.arraycopy(items[a], i, items[b], j, n);",
            "for (int k = 0; k < n; k++) { items[b][j + k] = items[a][i + k]; }");
        breaks(4, "int copy(", "|| rows.isMissing(b)", "");
        breaks(4, "int copy(", "|| !rows.isRow(b)", "");
        breaks(4, "int copy(", "return found(STORE);", "return found(PLACE);");
        breaks(4, "int lookedAt(", "|| n < 0 ", "");
        breaks(4, "int lookedAt(", "n > lengths[row] || i > lengths[row] - n", "i + n > lengths[row]");
        breaks(4, "int copy(", "return fine(n)", "return fine(0)");
        breaks(5, "int remove(", "lanes[row] = MISSING;", "");
        breaks(5, "int remove(", "return lengths[row]", "return 0");
        breaks(5, "int drop(", "found(NULL)", "BAD");
        breaks(5, "int drop(", "return BAD;", "return found(NULL);");
    }

    private void told() {
        breaks(6, "int feed(", "letter > 255", "letter >= 255");
        breaks(6, "int feed(", "letter < 0", "letter <= 0");
        breaks(6, "int feed(", "return BAD;", "return FULL;");
        breaks(6, "class Tape {", "LONGEST = 120", "LONGEST = 119");
        breaks(6, "class Tape {", "LONGEST = 120", "LONGEST = 121");
        breaks(6, "int add(", "return length;", "return length - 1;");
        breaks(7, "int court(", "tape.clear();", "");
        breaks(7, "int court(", "acts.clear();", "");
        breaks(7, "int court(", "return now.hums;", "return now.cases;");
        breaks(7, "int court(", "return FAULTY - reader.place;", "return FAULTY;");
        breaks(7, "int court(", "return FAULTY - reader.place;", "now.clear(); return FAULTY - reader.place;");
        breaks(7, "void readLaw(", "number(3, MOST_THINGS)", "number(2, MOST_THINGS)");
        breaks(7, "void readLaw(", "number(0, MOST_THINGS)", "number(0, 9)");
        breaks(7, "void readLaw(", "number(1, 9)", "number(1, 10)");
        breaks(7, "void readLaw(", "number(1, 9)", "number(0, 9)");
        breaks(7, "void readDream(", "draft.dream |=", "draft.dream =");
        breaks(7, "void readHums(", "mark(MISPLACED);", "");
        breaks(7, "void readHums(", "draft.hums == MOST_HUMS", "draft.hums == 5");
        breaks(7, "void readHums(", "mark(NO_ROOM);", "mark(MISPLACED);");
        breaks(7, "void readCases(", "draft.cases == MOST_CASES", "draft.cases == 4");
        breaks(7, "void readCases(", "mark(NO_ROOM);", "mark(MISPLACED);");
        breaks(7, "void readCase(", "number(0, draft.hums - 1)", "number(0, 5)");
        breaks(7, "void readCase(", "place = placeOfWins;", "");
        breaks(7, "void readCase(", "draft.wins[number] == draft.loses[number]", "false");
        breaks(7, "int number(", "figures > 2", "figures > 3");
        breaks(7, "void readAll(", "place < tape.length", "false");
        breaks(8, "int fault(", "return latestFault;", "return 0;");
        breaks(8, "int court(", "latestFault = reader.faultNumber;", "latestFault = latestFault == 0 ? reader.faultNumber : latestFault;");
        breaks(8, "int court(", "now.become(draft);", "now.become(draft); latestFault = 0;");
        breaks(9, "int undo(", "STATE", "BAD");
        breaks(9, "class Acts {", "MOST = 24", "MOST = 23");
        breaks(9, "class Acts {", "MOST = 24", "MOST = 25");
        breaks(9, "int takeBack(", "length--;", "length -= length > 1 ? 2 : 1;");
        breaks(9, "void readChanging(", "dream = kept[at];", "");
        breaks(9, "void readChanging(", "hummed = kept[at + 1];", "");
        breaks(9, "void readChanging(", "night = kept[at + 2];", "");
        breaks(9, "void readChanging(", "System.arraycopy(kept, at + 3, ways, 0, MOST_CASES);", "");
        breaks(9, "void readChanging(", "System.arraycopy(kept, at + 3 + MOST_CASES, things, 0, MOST_HUMS);", "");
    }

    private void done() {
        breaks(10, "int hum(", "now.hummed++;", "");
        breaks(10, "int hum(", "now.hummed >= now.perNight", "now.hummed > now.perNight");
        breaks(10, "int hum(", "return FULL;", "return STATE;");
        breaks(10, "int hum(", "acts.keep(now);", "");
        breaks(10, "boolean isHum(", "hum >= 0 && ", "hum != -7 && ");
        breaks(10, "int byKind(", "from | brought | 1 << thingBehind(thing)", "from | brought");
        breaks(10, "int thingBehind(", ": 0", ": thing");
        breaks(10, "int byKind(", "return otherIsThere ? from | brought : from;", "return from | brought;");
        breaks(10, "int byKind(", "return from & ~taken;", "return from & ~brought;");
        breaks(10, "int byKind(", "from & ~taken | brought : from", "(from | brought) & ~taken : from");
        breaks(11, "int hear(", "now.night++;", "");
        breaks(11, "int hear(", "now.hummed = 0;", "");
        breaks(11, "int hear(", "now.ways[number] = verdict;", "");
        breaks(11, "int hear(", "acts.keep(now);", "");
        breaks(11, "int hear(", "now.ways[number] != OPEN", "now.ways[number] == FREE");
        breaks(11, "int dreamHeard(", "worn(by(pleas[number], from))", "by(pleas[number], from)");
        breaks(11, "int dreamHeard(", "worn(by(pleas[number], from))", "worn(from)");
        breaks(11, "int worn(", "many < wears", "many <= wears");
        breaks(11, "int judged(", "loses[number] & 1) != 0", "loses[number] & 1) != 0 && (dreamt >> wins[number] & 1) == 0");
        breaks(12, "int appeal(", "now.ways[number] != GUILTY", "now.ways[number] < GUILTY");
        breaks(12, "int appeal(", "now.judged(number, now.dream)", "now.verdict(number, now.dream)");
        breaks(12, "int appeal(", "== FREE", "!= GUILTY");
        breaks(12, "int appeal(", ": FOR_GOOD", ": GUILTY");
        breaks(12, "int appeal(", "acts.keep(now);", "");
        breaks(12, "int appeal(", "return BAD;", "return STATE;");
        breaks(13, "int forget(", "now.dream &= ~(1 << thing);", "");
        breaks(13, "int forget(", "return STATE;", "return now.dream;");
        breaks(13, "int forget(", "return BAD;", "return STATE;");
        breaks(13, "int forget(", "acts.keep(now);", "");
        breaks(14, "int learn(", "return was;", "return thing;");
        breaks(14, "int learn(", "now.things[hum] = thing;", "now.others[hum] = thing;");
        breaks(14, "int learn(", " || !now.isThing(thing)", "");
        breaks(14, "int learn(", "acts.keep(now);", "");
    }

    private void seen() {
        breaks(15, "int ofHum(", "case 0: return now.things[hum];", "case 0: return now.others[hum];");
        breaks(15, "int ofHum(", "case 1: return now.others[hum];", "case 1: return now.things[hum];");
        breaks(15, "int ofHum(", "now.by(hum, now.dream)", "now.dream");
        breaks(15, "int ofHum(", "default: return BAD;", "default: return STATE;");
        breaks(16, "int ofCase(", "case 0: return now.pleas[number];", "case 0: return number;");
        breaks(16, "int ofCase(", "case 1: return now.loses[number];", "case 1: return now.wins[number];");
        breaks(16, "int ofCase(", "case 2: return now.wins[number];", "case 2: return now.loses[number];");
        breaks(16, "int ofCase(", "return now.ways[number];", "return Math.min(now.ways[number], GUILTY);");
        breaks(16, "int ofCase(", "return now.verdict(number, now.dream);", "return now.judged(number, now.dream);");
        breaks(16, "int ofCase(", "return BAD;", "return STATE;");
        breaks(17, "int stand(", "return STATE;", "return BAD;");
        breaks(17, "int stand(", "return now.hummed;", "return now.night;");
        breaks(17, "int stand(", "now.casesThatAre(OPEN)", "0");
        breaks(17, "int stand(", "now.casesThatAre(FREE)", "0");
        breaks(17, "int stand(", " | now.casesThatAre(FOR_GOOD)", "");
        breaks(17, "int stand(", "default: return BAD;", "default: return 0;");
    }

    private void foretold() {
        breaks(18, "int sleep(", "return STATE;", "return BAD;");
        breaks(18, "int sleep(", "told.lastDream(Told.ALL_HUMMED)", "told.lastDream(0)");
        breaks(18, "int takeHums(", "[i + k]", "[k]");
        breaks(18, "int takeHums(", "return KIND;", "return PLACE;");
        breaks(18, "boolean isToldLength(", "n <= MOST_TOLD", "n < MOST_TOLD");
        breaks(18, "boolean isToldLength(", "n >= 1", "n >= 0");
        breaks(19, "int dreams(", "return STATE;", "return BAD;");
        breaks(19, "int howManyBehind(", "many += here[dream];", "many = 1;");
        breaks(19, "int inAllBehind(", "dream : -1", "dream : 0");
        breaks(19, "int inAnyBehind(", "any |=", "any =");
        breaks(19, "int leastBehind(", "int dream = 0", "int dream = 1");
        breaks(19, "int greatestBehind(", "MOST_DREAMS - 1", "MOST_DREAMS - 2");
        breaks(19, "boolean isBehind(", "n <= MOST_BEHIND", "n < MOST_BEHIND");
        breaks(19, "void goBehind(", "Arrays.fill(behind, 0);", "System.arraycopy(here, 0, behind, 0, MOST_DREAMS);");
        breaks(20, "int least(", "return STATE;", "return BAD;");
        breaks(20, "int least(", " || !now.isDream(not)", "");
        breaks(20, "int least(", "k < -1", "k < -2");
        breaks(20, "int least(", "walks.goWithin(MOST_TOLD);", "walks.goWithin(11);");
        breaks(20, "int least(", "walks.goWithin(MOST_TOLD);", "walks.goWithin(13);");
        breaks(20, "int firstWith(", " && (met[at] & not) == 0", "");
        breaks(20, "int firstWith(", "(met[at] & there) == there", "(met[at] & there) != 0");
        breaks(20, "void goWithin(", "for (int hum = 0; hum < court.hums; hum++)", "for (int hum = court.hums - 1; hum >= 0; hum--)");
        breaks(20, "int humOfRowTo(", "if (k >= metDepth[at]) {", "if (k > metDepth[at]) {");
        breaks(21, "int save(", " || k < -1", "");
        breaks(21, "int save(", "walks.firstFree(number)", "walks.firstFree(0)");
        breaks(21, "int firstFree(", "== FREE", "!= GUILTY");
        breaks(21, "int firstFree(", "court.verdict(number, met[at])", "court.judged(number, met[at])");
        breaks(21, "int humOfRowTo(", "return NONE;", "return 0;");
        breaks(22, "int can(", " || !isBehind(n)", "");
        breaks(22, "int can(", "walks.goWithin(n);", "walks.goWithin(n + 1);");
        breaks(22, "int verdictsMet(", "bits |=", "bits =");
        breaks(22, "boolean isBehind(", "n <= MOST_BEHIND", "n < MOST_BEHIND");
    }

    private void casesAndHums() {
        breaks(23, "int order(", "return STATE;", "return BAD;");
        breaks(23, "int order(", "k < -2", "k < -3");
        breaks(23, "int order(", "return orders.bestGuilty;", "return 0;");
        breaks(23, "int order(", ": NONE", ": 0");
        breaks(23, "void compare(", "guilty < bestGuilty", "guilty > bestGuilty");
        breaks(23, "void compare(", " || free == bestFree && guilty < bestGuilty", "");
        breaks(23, "void compare(", "free > bestFree", "free >= bestFree");
        breaks(23, "void tryAll(", "int open = court.casesThatAre(OPEN);", "int open = (1 << court.cases) - 1;");
        breaks(24, "int first(", "return STATE;", "return NONE;");
        breaks(24, "int bestToBegin(", "> most", ">= most");
        breaks(24, "int bestToBegin(", "int begin = NONE;", "int begin = 0;");
        breaks(24, "int first(", "return orders.bestToBegin();", "return orders.length > 0 ? orders.best[0] : NONE;");
        breaks(25, "int clashes(", "return STATE;", "return BAD;");
        breaks(25, "boolean clash(", " || wins[other] == loses[one]", "");
        breaks(25, "int pairs(", "10 * one + other", "10 * other + one");
        breaks(25, "int pairs(", "what == 1 ? NONE", "what == 1 ? 0");
        breaks(25, "int clashes(", "return BAD;", "return NONE;");
        breaks(26, "int deaf(", ": STATE", ": BAD");
        breaks(26, "int deafHums(", "by(hum, dream) == dream", "by(hum, 0) == 0");
        breaks(26, "int deafHums(", "bits |=", "bits =");
        breaks(27, "int same(", "return STATE;", "return BAD;");
        breaks(27, "boolean doTheSame(", "from = 0; from < dreamCount()", "from = dream; from <= dream");
        breaks(27, "boolean doTheSame(", "from++", "from += 2");
        breaks(27, "int same(", "return BAD;", "return NONE;");
        breaks(27, "int pairs(", "many++;", "many = 1;");
    }

    private void fitted() {
        breaks(28, "int who(", "which > 2", "which > 3");
        breaks(28, "int who(", " || !rows.isRow(other)", "");
        breaks(28, "int takeBoth(", "int finding = told.takeHums(rows, row, i, n);",
            "int finding = rows.lookedAt(other, j, n) != 0 ? rows.lookedAt(other, j, n) : told.takeHums(rows, row, i, n);");
        breaks(28, "int kindsThatFit(", "kind <= FEATHER", "kind < FEATHER");
        breaks(28, "int kindsThatFit(", "? 1 << kind", "? 1 << kind - 1");
        breaks(28, "int thingsThatFit(", "court.others[hum]", "court.things[hum]");
        breaks(28, "int othersThatFit(", "other < court.thingCount", "other < court.thingCount - 1");
        breaks(28, "boolean fits(", "hums[k] == hum", "k == hum");
        breaks(29, "int began(", "return STATE;", "return BAD;");
        breaks(29, "int began(", "!isOneOfTwo(what) || ", "");
        breaks(29, "int howManyBegan(", "from < court.dreamCount()", "from < court.dreamCount() - 1");
        breaks(29, "int leastBegan(", "return NONE;", "return 0;");
        breaks(29, "int leastBegan(", "int from = 0", "int from = 1");
        breaks(29, "int takeDreams(", "rows.items[row], i, dreams", "rows.items[row], 0, dreams");
        breaks(30, "int snored(", "return STATE;", "return BAD;");
        breaks(30, "int snored(", "!now.isDream(dream) || ", "");
        breaks(30, "int placesNotHummed(", "? AS_IT_IS : 0", "? 0 : 0");
        breaks(30, "int placesNotHummed(", "k < length", "k < length - 1");
        breaks(30, "int lastDream(", "k == notHummed ? dream", "k == notHummed ? 0");
    }

    private void chancesDrawsAndImages() {
        breaks(31, "long gone(", "p > 10", "p > 9");
        breaks(31, "long gone(", "what == 0 ? above / both : below / both", "what == 0 ? above : below");
        breaks(31, "long freeParts(", "power(10 - p, stayed)", "power(p, stayed)");
        breaks(31, "long freeParts(", "verdict(number, left) == FREE", "judged(number, left) == FREE");
        breaks(31, "long gone(", " || !isOneOfTwo(what)", "");
        breaks(32, "int drawn(", "return STATE;", "return BAD;");
        breaks(32, "int drawn(", "n > MOST_TERMS", "n >= MOST_TERMS");
        breaks(32, "int drawn(", "seed < 1", "seed < 0");
        breaks(32, "int drawn(", "seed > LARGEST_SEED", "seed >= LARGEST_SEED");
        breaks(32, "void drawTerms(", "x * 16807", "x * 16806");
        breaks(32, "void drawTerms(", "x % 4 == 0", "x % 4 == 1");
        breaks(32, "void drawTerms(", " && cases > 0", " && casesThatAre(OPEN) > 0");
        breaks(32, "void hearIfOpen(", "dream = dreamHeard(number, dream);", "");
        breaks(32, "void hearIfOpen(", "ways[number] == OPEN", "ways[number] != FREE");
        breaks(33, "int image(", "return BAD;", "return STATE;");
        breaks(33, "int image(", "return STATE;", "return BAD;");
        breaks(33, "int image(", "images[k].become(now);", "images[0].become(now);");
        breaks(33, "int image(", "return 1;", "return k;");
        breaks(34, "int restore(", "return STATE;", "return BAD;");
        breaks(34, "int restore(", "return BAD;", "return STATE;");
        breaks(34, "int restore(", "acts.clear();", "");
        breaks(34, "int restore(", "now.become(images[k]);", "now.dream = images[k].dream;");
        breaks(34, "void become(", "System.arraycopy(model.ways, 0, ways, 0, MOST_CASES);", "");
        breaks(34, "void become(", "System.arraycopy(model.things, 0, things, 0, MOST_HUMS);", "");
        breaks(34, "void become(", "hummed = model.hummed;", "");
        breaks(34, "void become(", "night = model.night;", "");
    }

    private void asked() {
        breaks(35, "int kind(", "now.kinds[one]", "kindAbove(now.kinds[one])");
        breaks(35, "int kind(", ": BAD", ": STATE");
        breaks(35, "int kindNext(", "case 's': return STEPS;", "case 's': return CHEESE;");
        breaks(36, "int as(", "kind < 0 || ", "");
        breaks(36, "int as(", "kind > FEATHER", "kind > 6");
        breaks(36, "int as(", "found(KIND)", "BAD");
        breaks(36, "int as(", "fine(one)", "fine(kind)");
        breaks(36, "boolean isAlso(", "wanted == 0 || ", "");
        breaks(36, "boolean isAlso(", " || wanted == kindAbove(kind)", "");
        breaks(37, "int ask(", " || !isOneOfTwo(what)", "");
        breaks(37, "int answer(", "length = 0;", "");
        breaks(37, "class Asking {", "{10, 11, 12, 11, 13, 14}", "{10, 11, 12, 11, 13, 13}");
        breaks(37, "class Asking {", "{20, 21, 24, 22, 23, 23}", "{20, 21, 21, 22, 23, 23}");
        breaks(37, "int begin(int body", "begin(markBody(hum), hum, below)", "begin(21, hum, below)");
        breaks(37, "int begin(int body", "begin(sizeBody(hum), hum, below)", "begin(13, hum, below)");
        breaks(37, "int begin(int body", "- 100", "- 99");
        breaks(38, "int trace(", "i < asking.length", "i <= asking.length && i < 16");
        breaks(38, "int trace(", ": NONE", ": BAD");
        breaks(38, "int begin(int body", "leave(body);", "if (depth > 0) { leave(body); }");
        breaks(39, "int count(", "case 0: return rows.howMany();", "case 0: return Rows.ROWS;");
        breaks(39, "int count(", "return now.night;", "return now.hummed;");
        breaks(39, "int count(", "return acts.length;", "return 0;");
        breaks(39, "int count(", "return tape.length;", "return 0;");
        breaks(39, "int count(", "default: return BAD;", "default: return 0;");
        breaks(40, "int found(", "latestFinding = finding;", "");
        breaks(40, "int fine(", "latestFinding = 0;", "");
        breaks(40, "int row(", "return BAD;", "return fine(BAD);");
        breaks(40, "int as(", "fine(one)", "one");
        breaks(40, "int hum(", "return BAD;", "return fine(BAD);");
        breaks(40, "int stand(", "case 0: return now.dream;", "case 0: return fine(now.dream);");
    }

    // ---- how it is noticed

    private void allAreNoticed() {
        // What the tests tell of a broken class is of no use.
        PrintStream out = System.out;
        System.setOut(new PrintStream(OutputStream.nullOutputStream()));
        List<String> outcomes = breaks.parallelStream().map(this::outcome).collect(Collectors.toList());
        System.setOut(out);
        Check check = new Check();
        Set<Integer> promises = new TreeSet<>();
        for (int k = 0; k < outcomes.size(); k++) {
            promises.add(breaks.get(k).promise);
            check.due(breaks.get(k).told(), outcomes.get(k), "noticed");
        }
        check.due("promises that were broken", promises.size(), 40);
        check.end();
    }

    private String outcome(Break one) {
        int begin = source.indexOf(one.member);
        int at = begin < 0 ? -1 : source.indexOf(one.text, begin);
        if (at < 0) {
            return "no such text";
        }
        try {
            Path place = Files.createTempDirectory(folder, "one");
            String text = source.substring(0, at) + one.instead + source.substring(at + one.text.length());
            return !isCompiled(text, place) ? "not compiled" : isNoticed(one.promise, place) ? "noticed" : "not noticed";
        } catch (IOException | ReflectiveOperationException thrown) {
            return thrown.toString();
        }
    }

    private static boolean isCompiled(String text, Path place) throws IOException {
        Path file = place.resolve("SleepingJudge.java");
        Files.writeString(file, text);
        return ToolProvider.getSystemJavaCompiler().run(null, null, null, "-proc:none", "-d", place.toString(), file.toString()) == 0;
    }

    private static boolean isNoticed(int promise, Path place) throws IOException, ReflectiveOperationException {
        try (URLClassLoader loader = new URLClassLoader(urls(place), ClassLoader.getPlatformClassLoader())) {
            Field alone = loader.loadClass("Edges").getDeclaredField("alone");
            alone.setAccessible(true);
            alone.set(null, promise);
            for (String test : TESTS) {
                loader.loadClass(test).getMethod("main", String[].class).invoke(null, (Object) new String[0]);
            }
            return false;
        } catch (InvocationTargetException thrown) {
            return true;
        }
    }

    /** The broken class comes ahead of the one that stands. */
    private static URL[] urls(Path place) throws IOException {
        List<URL> all = new ArrayList<>();
        all.add(place.toUri().toURL());
        for (String one : System.getProperty("java.class.path").split(File.pathSeparator)) {
            all.add(new File(one).toURI().toURL());
        }
        return all.toArray(new URL[0]);
    }

    private static void remove(File file) {
        File[] inside = file.listFiles();
        for (File one : inside == null ? new File[0] : inside) {
            remove(one);
        }
        file.delete();
    }
}
