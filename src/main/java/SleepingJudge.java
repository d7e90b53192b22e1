import java.util.Arrays;

/** A court in which only what the sleeping judge dreams is evidence; ../shared/DOC.md says what each call answers. */
public final class SleepingJudge {
    public static final int NONE = -1000000, BAD = -1000001, STATE = -1000002, FULL = -1000003;

    private static final int FOUND = -1000010, FAULTY = -1000100;
    private static final int NULL = 1, PLACE = 2, KIND = 3, SIZE = 4, STORE = 5;
    private static final int TUNE = 1, CHEESE = 2, STEPS = 3, RAIN = 4, FEATHER = 5;
    private static final int OPEN = 0, FREE = 1, GUILTY = 2, FOR_GOOD = 3;
    private static final int MOST_THINGS = 8, MOST_HUMS = 6, MOST_CASES = 5, MOST_DREAMS = 256;
    private static final int MOST_TOLD = 12, MOST_BEHIND = 8, IMAGES = 2;
    private static final int AS_IT_IS = 4096, MOST_TERMS = 60, LARGEST_SEED = 999999;

    private final Rows rows = new Rows();
    private final Tape tape = new Tape();
    private final Court now = new Court();
    private final Court draft = new Court();
    private final Reader reader = new Reader(tape, draft);
    private final Acts acts = new Acts();
    private final Court[] images = {new Court(), new Court()};
    private final Walks walks = new Walks(now);
    private final Orders orders = new Orders(now);
    private final Told told = new Told(now);
    private final Asking asking = new Asking(now);
    private int latestFault;
    private int latestFinding;

    public SleepingJudge() {
    }

    // ---- rows

    public int row(int row, int lane, int n) {
        if (!rows.isRow(row) || !rows.isLane(lane) || n > Rows.LONGEST) {
            return BAD;
        }
        if (n < 0) {
            return found(SIZE);
        }
        rows.make(row, lane, n);
        return fine(n);
    }

    public int set(int row, int i, int v) {
        if (!rows.isRow(row)) {
            return BAD;
        }
        int finding = rows.lookedAt(row, i, 1);
        return finding != 0 ? found(finding) : fine(rows.put(row, i, v));
    }

    public int copy(int a, int i, int b, int j, int n) {
        if (!rows.isRow(a) || !rows.isRow(b)) {
            return BAD;
        }
        if (rows.isMissing(a) || rows.isMissing(b)) {
            return found(NULL);
        }
        if (!rows.areAlike(a, b)) {
            return found(STORE);
        }
        if (rows.lookedAt(a, i, n) != 0 || rows.lookedAt(b, j, n) != 0) {
            return found(PLACE);
        }
        rows.move(a, i, b, j, n);
        return fine(n);
    }

    public int drop(int row) {
        if (!rows.isRow(row)) {
            return BAD;
        }
        return rows.isMissing(row) ? found(NULL) : fine(rows.remove(row));
    }

    // ---- what is told

    public int feed(int letter) {
        if (letter < 0 || letter > 255) {
            return BAD;
        }
        return tape.isFull() ? FULL : tape.add(letter);
    }

    public int court() {
        reader.readAll();
        tape.clear();
        if (reader.faultNumber != 0) {
            latestFault = reader.faultNumber;
            return FAULTY - reader.place;
        }
        now.become(draft);
        acts.clear();
        return now.hums;
    }

    public int fault() {
        return latestFault;
    }

    public int undo() {
        return acts.length == 0 ? STATE : acts.takeBack(now);
    }

    // ---- what is done

    public int hum(int hum) {
        if (!now.isHum(hum)) {
            return BAD;
        }
        if (now.hummed >= now.perNight) {
            return FULL;
        }
        acts.keep(now);
        now.dream = now.by(hum, now.dream);
        now.hummed++;
        return now.dream;
    }

    public int hear(int number) {
        if (!now.isCase(number)) {
            return BAD;
        }
        if (now.ways[number] != OPEN) {
            return STATE;
        }
        acts.keep(now);
        int verdict = now.verdict(number, now.dream);
        now.ways[number] = verdict;
        now.dream = now.dreamHeard(number, now.dream);
        now.night++;
        now.hummed = 0;
        return verdict;
    }

    public int appeal(int number) {
        if (!now.isCase(number)) {
            return BAD;
        }
        if (now.ways[number] != GUILTY) {
            return STATE;
        }
        acts.keep(now);
        boolean again = now.judged(number, now.dream) == FREE;
        now.ways[number] = again ? OPEN : FOR_GOOD;
        return again ? 1 : 0;
    }

    public int forget(int thing) {
        if (!now.isThing(thing)) {
            return BAD;
        }
        if ((now.dream >> thing & 1) == 0) {
            return STATE;
        }
        acts.keep(now);
        now.dream &= ~(1 << thing);
        return now.dream;
    }

    public int learn(int hum, int thing) {
        if (!now.isHum(hum) || !now.isThing(thing)) {
            return BAD;
        }
        acts.keep(now);
        int was = now.things[hum];
        now.things[hum] = thing;
        return was;
    }

    public int ofHum(int hum, int what) {
        if (!now.isHum(hum)) {
            return BAD;
        }
        switch (what) {
            case 0: return now.things[hum];
            case 1: return now.others[hum];
            case 2: return now.by(hum, now.dream);
            default: return BAD;
        }
    }

    public int ofCase(int number, int what) {
        if (!now.isCase(number)) {
            return BAD;
        }
        switch (what) {
            case 0: return now.pleas[number];
            case 1: return now.loses[number];
            case 2: return now.wins[number];
            case 3: return now.ways[number];
            case 4: return now.verdict(number, now.dream);
            default: return BAD;
        }
    }

    public int stand(int what) {
        if (!now.isTold()) {
            return STATE;
        }
        switch (what) {
            case 0: return now.dream;
            case 1: return now.hummed;
            case 2: return now.casesThatAre(OPEN);
            case 3: return now.casesThatAre(FREE);
            case 4: return now.casesThatAre(GUILTY) | now.casesThatAre(FOR_GOOD);
            default: return BAD;
        }
    }

    // ---- foretold

    public int sleep(int row, int i, int n) {
        if (!now.isTold()) {
            return STATE;
        }
        if (!rows.isRow(row) || !isToldLength(n)) {
            return BAD;
        }
        int finding = told.takeHums(rows, row, i, n);
        return finding != 0 ? found(finding) : fine(told.lastDream(Told.ALL_HUMMED));
    }

    public int dreams(int n, int what) {
        if (!now.isTold()) {
            return STATE;
        }
        if (!isBehind(n)) {
            return BAD;
        }
        switch (what) {
            case 0: return walks.howManyBehind(n);
            case 1: return walks.inAllBehind(n);
            case 2: return walks.inAnyBehind(n);
            case 3: return walks.leastBehind(n);
            case 4: return walks.greatestBehind(n);
            default: return BAD;
        }
    }

    public int least(int there, int not, int k) {
        if (!now.isTold()) {
            return STATE;
        }
        if (!now.isDream(there) || !now.isDream(not) || k < -1) {
            return BAD;
        }
        walks.goWithin(MOST_TOLD);
        return walks.humOfRowTo(walks.firstWith(there, not), k);
    }

    public int save(int number, int k) {
        if (!now.isCase(number) || k < -1) {
            return BAD;
        }
        walks.goWithin(MOST_TOLD);
        return walks.humOfRowTo(walks.firstFree(number), k);
    }

    public int can(int number, int n) {
        if (!now.isCase(number) || !isBehind(n)) {
            return BAD;
        }
        walks.goWithin(n);
        return walks.verdictsMet(number);
    }

    public int order(int k) {
        if (!now.isTold()) {
            return STATE;
        }
        if (k < -2) {
            return BAD;
        }
        orders.tryAll();
        if (k == -2) {
            return orders.bestGuilty;
        }
        if (k == -1) {
            return orders.bestFree;
        }
        return k < orders.length ? orders.best[k] : NONE;
    }

    public int first() {
        if (!now.isTold()) {
            return STATE;
        }
        orders.tryAll();
        return orders.bestToBegin();
    }

    public int clashes(int what) {
        if (!now.isTold()) {
            return STATE;
        }
        if (!isOneOfTwo(what)) {
            return BAD;
        }
        return now.pairs(false, what);
    }

    public int deaf() {
        return now.isTold() ? now.deafHums() : STATE;
    }

    public int same(int what) {
        if (!now.isTold()) {
            return STATE;
        }
        if (!isOneOfTwo(what)) {
            return BAD;
        }
        return now.pairs(true, what);
    }

    public int who(int hum, int which, int row, int i, int other, int j, int n) {
        if (!now.isHum(hum) || which < 0 || which > 2) {
            return BAD;
        }
        if (!rows.isRow(row) || !rows.isRow(other) || !isToldLength(n)) {
            return BAD;
        }
        int finding = takeBoth(row, i, other, j, n);
        if (finding != 0) {
            return found(finding);
        }
        switch (which) {
            case 0: return fine(told.kindsThatFit(hum));
            case 1: return fine(told.thingsThatFit(hum));
            default: return fine(told.othersThatFit(hum));
        }
    }

    public int began(int what, int row, int i, int other, int j, int n) {
        if (!now.isTold()) {
            return STATE;
        }
        if (!isOneOfTwo(what) || !rows.isRow(row) || !rows.isRow(other) || !isToldLength(n)) {
            return BAD;
        }
        int finding = takeBoth(row, i, other, j, n);
        if (finding != 0) {
            return found(finding);
        }
        return fine(what == 0 ? told.howManyBegan() : told.leastBegan());
    }

    public int snored(int dream, int row, int i, int n) {
        if (!now.isTold()) {
            return STATE;
        }
        if (!now.isDream(dream) || !rows.isRow(row) || !isToldLength(n)) {
            return BAD;
        }
        int finding = told.takeHums(rows, row, i, n);
        return finding != 0 ? found(finding) : fine(told.placesNotHummed(dream));
    }

    public long gone(int number, int p, int what) {
        if (!now.isCase(number) || p < 0 || p > 10 || !isOneOfTwo(what)) {
            return BAD;
        }
        long below = power(10, Integer.bitCount(now.dream));
        long above = now.freeParts(number, p);
        long both = commonDivisor(above, below);
        if (both <= 0) {
            return BAD;
        }
        return what == 0 ? above / both : below / both;
    }

    public int drawn(int n, int seed, int what) {
        if (!now.isTold()) {
            return STATE;
        }
        if (n < 0 || n > MOST_TERMS || seed < 1 || seed > LARGEST_SEED || !isOneOfTwo(what)) {
            return BAD;
        }
        draft.become(now);
        draft.drawTerms(n, seed);
        return what == 0 ? Integer.bitCount(draft.casesThatAre(FREE)) : draft.dream;
    }

    public int image(int k) {
        if (!isImage(k)) {
            return BAD;
        }
        if (!now.isTold()) {
            return STATE;
        }
        images[k].become(now);
        return 1;
    }

    public int restore(int k) {
        if (!isImage(k)) {
            return BAD;
        }
        if (!images[k].isTold()) {
            return STATE;
        }
        now.become(images[k]);
        acts.clear();
        return 1;
    }

    // ---- asked

    public int kind(int one) {
        return now.isHum(one) ? now.kinds[one] : BAD;
    }

    public int as(int one, int kind) {
        if (!now.isHum(one) || kind < 0 || kind > FEATHER) {
            return BAD;
        }
        return isAlso(now.kinds[one], kind) ? fine(one) : found(KIND);
    }

    public int ask(int one, int what) {
        if (!now.isHum(one) || !isOneOfTwo(what)) {
            return BAD;
        }
        return asking.answer(one, what);
    }

    public int trace(int i) {
        return i >= 0 && i < asking.length ? asking.begun[i] : NONE;
    }

    public int count(int what) {
        switch (what) {
            case 0: return rows.howMany();
            case 1: return now.thingCount;
            case 2: return now.hums;
            case 3: return now.cases;
            case 4: return now.night;
            case 5: return now.dream;
            case 6: return acts.length;
            case 7: return tape.length;
            default: return BAD;
        }
    }

    public int status() {
        return latestFinding;
    }

    // ---- what several calls need

    private int found(int finding) {
        latestFinding = finding;
        return FOUND - finding;
    }

    private int fine(int answer) {
        latestFinding = 0;
        return answer;
    }

    private int takeBoth(int row, int i, int other, int j, int n) {
        int finding = told.takeHums(rows, row, i, n);
        return finding != 0 ? finding : told.takeDreams(rows, other, j, n);
    }

    private static boolean isToldLength(int n) {
        return n >= 1 && n <= MOST_TOLD;
    }

    private static boolean isBehind(int n) {
        return n >= 0 && n <= MOST_BEHIND;
    }

    private static boolean isOneOfTwo(int what) {
        return what == 0 || what == 1;
    }

    private static boolean isImage(int k) {
        return k >= 0 && k < IMAGES;
    }

    private static boolean isAlso(int kind, int wanted) {
        return wanted == 0 || wanted == kind || wanted == kindAbove(kind);
    }

    private static int kindAbove(int kind) {
        switch (kind) {
            case CHEESE: return TUNE;
            case STEPS: return TUNE;
            case FEATHER: return RAIN;
            default: return 0;
        }
    }

    private static long power(int base, int times) {
        long product = 1;
        for (int k = 0; k < times; k++) {
            product *= base;
        }
        return product;
    }

    private static long commonDivisor(long one, long other) {
        long a = one;
        long b = other;
        // Each two rounds halve the lesser number, so 128 rounds end any pair of longs.
        for (int round = 0; round < 128 && b != 0; round++) {
            long rest = a % b;
            a = b;
            b = rest;
        }
        return a;
    }

    private static final class Rows {
        static final int ROWS = 8, LONGEST = 40, LANES = 3, MISSING = -1;

        final int[][] items = new int[ROWS][LONGEST];
        final int[] lanes = {MISSING, MISSING, MISSING, MISSING, MISSING, MISSING, MISSING, MISSING};
        final int[] lengths = new int[ROWS];

        boolean isRow(int row) {
            return row >= 0 && row < ROWS;
        }

        boolean isLane(int lane) {
            return lane >= 0 && lane < LANES;
        }

        boolean isMissing(int row) {
            return lanes[row] == MISSING;
        }

        boolean areAlike(int a, int b) {
            return lanes[a] == lanes[b];
        }

        int lookedAt(int row, int i, int n) {
            if (isMissing(row)) {
                return NULL;
            }
            // Taken from the length, not added to i, so that no sum can run over.
            return i < 0 || n < 0 || n > lengths[row] || i > lengths[row] - n ? PLACE : 0;
        }

        void make(int row, int lane, int n) {
            Arrays.fill(items[row], 0);
            lanes[row] = lane;
            lengths[row] = n;
        }

        int put(int row, int i, int v) {
            items[row][i] = lanes[row] == 0 ? (byte) v : lanes[row] == 1 ? (short) v : v;
            return items[row][i];
        }

        void move(int a, int i, int b, int j, int n) {
            System.arraycopy(items[a], i, items[b], j, n);
        }

        int remove(int row) {
            lanes[row] = MISSING;
            return lengths[row];
        }

        int howMany() {
            int many = 0;
            for (int row = 0; row < ROWS; row++) {
                many += isMissing(row) ? 0 : 1;
            }
            return many;
        }
    }

    private static final class Tape {
        static final int LONGEST = 120, END = -1;

        final int[] letters = new int[LONGEST];
        int length;

        boolean isFull() {
            return length >= LONGEST;
        }

        int add(int letter) {
            letters[length] = letter;
            length++;
            return length;
        }

        int at(int place) {
            return place >= 0 && place < length ? letters[place] : END;
        }

        boolean isFigure(int place) {
            return place >= 0 && place < length && letters[place] >= '0' && letters[place] <= '9';
        }

        void clear() {
            length = 0;
        }
    }

    /** Reads the tape into a draft, so that a COURT that stands is not touched by a text with a FAULT. */
    private static final class Reader {
        static final int MISPLACED = 1, NOT_AS_TOLD = 2, NO_ROOM = 3;

        final Tape tape;
        final Court draft;
        int place;
        int faultNumber;

        Reader(Tape tape, Court draft) {
            this.tape = tape;
            this.draft = draft;
        }

        /** Behind it, place is that of the FAULT, if there is one. */
        void readAll() {
            place = 0;
            faultNumber = 0;
            draft.clear();
            readLaw();
            readDream();
            readHums();
            readCases();
            if (faultNumber == 0 && place < tape.length) {
                faultNumber = MISPLACED;
            }
        }

        private void readLaw() {
            pass('j');
            draft.thingCount = number(3, MOST_THINGS);
            pass(',');
            draft.wears = number(0, MOST_THINGS);
            pass(',');
            draft.perNight = number(1, 9);
            pass(';');
        }

        private void readDream() {
            pass('d');
            draft.dream = 1 << thing();
            for (int k = 0; k < Tape.LONGEST && isNext(','); k++) {
                pass(',');
                draft.dream |= 1 << thing();
            }
            pass(';');
        }

        private void readHums() {
            if (kindNext() == 0) {
                mark(MISPLACED);
            }
            for (int k = 0; k < Tape.LONGEST && kindNext() != 0; k++) {
                if (draft.hums == MOST_HUMS) {
                    mark(NO_ROOM);
                } else {
                    readHum();
                }
            }
        }

        private void readHum() {
            int hum = draft.hums;
            draft.kinds[hum] = kindNext();
            place++;
            draft.things[hum] = thing();
            pass(',');
            draft.others[hum] = thing();
            pass(';');
            draft.hums++;
        }

        private void readCases() {
            for (int k = 0; k < Tape.LONGEST && isNext('v'); k++) {
                if (draft.cases == MOST_CASES) {
                    mark(NO_ROOM);
                } else {
                    readCase();
                }
            }
        }

        private void readCase() {
            int number = draft.cases;
            pass('v');
            draft.pleas[number] = number(0, draft.hums - 1);
            pass(',');
            draft.loses[number] = thing();
            pass(',');
            int placeOfWins = place;
            draft.wins[number] = thing();
            if (faultNumber == 0 && draft.wins[number] == draft.loses[number]) {
                place = placeOfWins;
                mark(NOT_AS_TOLD);
            }
            pass(';');
            draft.cases++;
        }

        private int thing() {
            return number(0, draft.thingCount - 1);
        }

        private boolean isNext(int letter) {
            return faultNumber == 0 && tape.at(place) == letter;
        }

        private int kindNext() {
            if (faultNumber != 0) {
                return 0;
            }
            switch (tape.at(place)) {
                case 't': return TUNE;
                case 'c': return CHEESE;
                case 's': return STEPS;
                case 'r': return RAIN;
                case 'f': return FEATHER;
                default: return 0;
            }
        }

        /** The first FAULT alone is kept; behind it nothing is passed any more. */
        private void mark(int number) {
            if (faultNumber == 0) {
                faultNumber = number;
            }
        }

        private void pass(int letter) {
            if (isNext(letter)) {
                place++;
            } else {
                mark(MISPLACED);
            }
        }

        /** The NUMBER here, or 0 behind a FAULT. */
        private int number(int low, int high) {
            if (faultNumber != 0) {
                return 0;
            }
            int figures = 0;
            // Three are counted at most: a run of three is no NUMBER, however long it is.
            while (figures < 3 && tape.isFigure(place + figures)) {
                figures++;
            }
            if (figures < 1 || figures > 2) {
                mark(MISPLACED);
                return 0;
            }
            int value = tape.at(place) - '0';
            if (figures == 2) {
                value = 10 * value + tape.at(place + 1) - '0';
            }
            if (value < low || value > high) {
                mark(NOT_AS_TOLD);
                return 0;
            }
            place += figures;
            return value;
        }
    }

    /** The COURT: what was told, and how it stands; without THINGS none was told. */
    private static final class Court {
        /** The DREAM, what was hummed, the NIGHT, the ways of CASES and the THINGS of HUMS: all that an ACT can change. */
        static final int CHANGING = 3 + MOST_CASES + MOST_HUMS;

        int thingCount, wears, perNight;
        int dream, hummed, night;
        int hums, cases;
        final int[] kinds = new int[MOST_HUMS];
        final int[] things = new int[MOST_HUMS];
        final int[] others = new int[MOST_HUMS];
        final int[] pleas = new int[MOST_CASES];
        final int[] loses = new int[MOST_CASES];
        final int[] wins = new int[MOST_CASES];
        final int[] ways = new int[MOST_CASES];

        void clear() {
            thingCount = 0;
            wears = 0;
            perNight = 0;
            dream = 0;
            hummed = 0;
            night = 0;
            hums = 0;
            cases = 0;
            Arrays.fill(ways, OPEN);
        }

        void become(Court model) {
            thingCount = model.thingCount;
            wears = model.wears;
            perNight = model.perNight;
            dream = model.dream;
            hummed = model.hummed;
            night = model.night;
            hums = model.hums;
            cases = model.cases;
            System.arraycopy(model.kinds, 0, kinds, 0, MOST_HUMS);
            System.arraycopy(model.things, 0, things, 0, MOST_HUMS);
            System.arraycopy(model.others, 0, others, 0, MOST_HUMS);
            System.arraycopy(model.pleas, 0, pleas, 0, MOST_CASES);
            System.arraycopy(model.loses, 0, loses, 0, MOST_CASES);
            System.arraycopy(model.wins, 0, wins, 0, MOST_CASES);
            System.arraycopy(model.ways, 0, ways, 0, MOST_CASES);
        }

        void writeChanging(int[] kept, int at) {
            kept[at] = dream;
            kept[at + 1] = hummed;
            kept[at + 2] = night;
            System.arraycopy(ways, 0, kept, at + 3, MOST_CASES);
            System.arraycopy(things, 0, kept, at + 3 + MOST_CASES, MOST_HUMS);
        }

        void readChanging(int[] kept, int at) {
            dream = kept[at];
            hummed = kept[at + 1];
            night = kept[at + 2];
            System.arraycopy(kept, at + 3, ways, 0, MOST_CASES);
            System.arraycopy(kept, at + 3 + MOST_CASES, things, 0, MOST_HUMS);
        }

        boolean isTold() {
            return thingCount > 0;
        }

        boolean isHum(int hum) {
            return hum >= 0 && hum < hums;
        }

        boolean isCase(int number) {
            return number >= 0 && number < cases;
        }

        boolean isThing(int thing) {
            return thing >= 0 && thing < thingCount;
        }

        boolean isDream(int bits) {
            return bits >= 0 && bits < dreamCount();
        }

        int dreamCount() {
            return 1 << thingCount;
        }

        int by(int hum, int from) {
            return byKind(kinds[hum], things[hum], others[hum], from);
        }

        int byKind(int kind, int thing, int other, int from) {
            int brought = 1 << thing;
            int taken = 1 << other;
            boolean otherIsThere = (from & taken) != 0;
            switch (kind) {
                case TUNE: return from | brought;
                case CHEESE: return from | brought | 1 << thingBehind(thing);
                case STEPS: return otherIsThere ? from | brought : from;
                case RAIN: return from & ~taken;
                // Taken first and brought then, so that a THING taken by its own feather is there.
                case FEATHER: return otherIsThere ? from & ~taken | brought : from;
                default: return from;
            }
        }

        private int thingBehind(int thing) {
            return thing + 1 < thingCount ? thing + 1 : 0;
        }

        int verdict(int number, int from) {
            return judged(number, by(pleas[number], from));
        }

        int judged(int number, int dreamt) {
            if ((dreamt >> loses[number] & 1) != 0) {
                return GUILTY;
            }
            return (dreamt >> wins[number] & 1) != 0 ? FREE : OPEN;
        }

        int dreamHeard(int number, int from) {
            return worn(by(pleas[number], from));
        }

        private int worn(int from) {
            int left = 0;
            int many = 0;
            for (int thing = 0; thing < thingCount && many < wears; thing++) {
                if ((from >> thing & 1) != 0) {
                    left |= 1 << thing;
                    many++;
                }
            }
            return left;
        }

        int casesThatAre(int way) {
            int bits = 0;
            for (int number = 0; number < cases; number++) {
                bits |= ways[number] == way ? 1 << number : 0;
            }
            return bits;
        }

        /** Pairs of HUMS that do the same, or of CASES that clash: how many (what = 0), or the first (1). */
        int pairs(boolean ofHums, int what) {
            int all = ofHums ? hums : cases;
            int many = 0;
            for (int one = 0; one < all; one++) {
                for (int other = one + 1; other < all; other++) {
                    if (ofHums ? doTheSame(one, other) : clash(one, other)) {
                        if (what == 1) {
                            return 10 * one + other;
                        }
                        many++;
                    }
                }
            }
            return what == 1 ? NONE : many;
        }

        private boolean clash(int one, int other) {
            return wins[one] == loses[other] || wins[other] == loses[one];
        }

        int deafHums() {
            int bits = 0;
            for (int hum = 0; hum < hums; hum++) {
                bits |= by(hum, dream) == dream ? 1 << hum : 0;
            }
            return bits;
        }

        private boolean doTheSame(int one, int other) {
            for (int from = 0; from < dreamCount(); from++) {
                if (by(one, from) != by(other, from)) {
                    return false;
                }
            }
            return true;
        }

        /** In how many of 10 to the THINGS dreamt a CASE is FREE, if each of these is forgotten in p of 10. */
        long freeParts(int number, int p) {
            long parts = 0;
            for (int left = 0; left < dreamCount(); left++) {
                if ((left & ~dream) == 0 && verdict(number, left) == FREE) {
                    int stayed = Integer.bitCount(left);
                    parts += power(10 - p, stayed) * power(p, Integer.bitCount(dream) - stayed);
                }
            }
            return parts;
        }

        void drawTerms(int n, int seed) {
            long x = seed;
            for (int k = 0; k < n; k++) {
                x = x * 16807 % 2147483647;
                if (x % 4 == 0 && cases > 0) {
                    hearIfOpen((int) (x % cases));
                } else if (hums > 0) {
                    dream = by((int) (x % hums), dream);
                }
            }
        }

        private void hearIfOpen(int number) {
            if (ways[number] == OPEN) {
                ways[number] = verdict(number, dream);
                dream = dreamHeard(number, dream);
            }
        }
    }

    /** The latest ACTS, each kept as all that it could change stood ahead of it; the oldest is written over. */
    private static final class Acts {
        static final int MOST = 24;

        final int[] kept = new int[MOST * Court.CHANGING];
        int next;
        int length;

        void keep(Court court) {
            court.writeChanging(kept, next * Court.CHANGING);
            next = next + 1 < MOST ? next + 1 : 0;
            length = Math.min(length + 1, MOST);
        }

        int takeBack(Court court) {
            next = next > 0 ? next - 1 : MOST - 1;
            court.readChanging(kept, next * Court.CHANGING);
            length--;
            return length;
        }

        void clear() {
            next = 0;
            length = 0;
        }
    }

    /** DREAMS that HUMS lead to. */
    private static final class Walks {
        static final int NOWHERE = -1;

        final Court court;
        // 1 for a DREAM that is among these, else 0.
        final int[] here = new int[MOST_DREAMS];
        final int[] behind = new int[MOST_DREAMS];
        // DREAMS met, in the order of the first shortest rows to them: HUMS are tried by their numbers.
        final int[] met = new int[MOST_DREAMS];
        final int[] metFrom = new int[MOST_DREAMS];
        final int[] metBy = new int[MOST_DREAMS];
        final int[] metDepth = new int[MOST_DREAMS];
        int length;

        Walks(Court court) {
            this.court = court;
        }

        int howManyBehind(int n) {
            goBehind(n);
            int many = 0;
            for (int dream = 0; dream < MOST_DREAMS; dream++) {
                many += here[dream];
            }
            return many;
        }

        int inAllBehind(int n) {
            goBehind(n);
            int all = court.dreamCount() - 1;
            for (int dream = 0; dream < MOST_DREAMS; dream++) {
                all &= here[dream] != 0 ? dream : -1;
            }
            return all;
        }

        int inAnyBehind(int n) {
            goBehind(n);
            int any = 0;
            for (int dream = 0; dream < MOST_DREAMS; dream++) {
                any |= here[dream] != 0 ? dream : 0;
            }
            return any;
        }

        int leastBehind(int n) {
            goBehind(n);
            for (int dream = 0; dream < MOST_DREAMS; dream++) {
                if (here[dream] != 0) {
                    return dream;
                }
            }
            return NONE;
        }

        int greatestBehind(int n) {
            goBehind(n);
            for (int dream = MOST_DREAMS - 1; dream >= 0; dream--) {
                if (here[dream] != 0) {
                    return dream;
                }
            }
            return NONE;
        }

        private void goBehind(int n) {
            Arrays.fill(here, 0);
            here[court.dream] = 1;
            for (int k = 0; k < n; k++) {
                Arrays.fill(behind, 0);
                for (int dream = 0; dream < court.dreamCount(); dream++) {
                    if (here[dream] != 0) {
                        markBehind(dream);
                    }
                }
                System.arraycopy(behind, 0, here, 0, MOST_DREAMS);
            }
        }

        private void markBehind(int dream) {
            for (int hum = 0; hum < court.hums; hum++) {
                behind[court.by(hum, dream)] = 1;
            }
        }

        void goWithin(int n) {
            Arrays.fill(here, 0);
            length = 0;
            meet(court.dream, NOWHERE, NOWHERE, 0);
            for (int at = 0; at < MOST_DREAMS && at < length && metDepth[at] < n; at++) {
                for (int hum = 0; hum < court.hums; hum++) {
                    meet(court.by(hum, met[at]), at, hum, metDepth[at] + 1);
                }
            }
        }

        private void meet(int dream, int from, int hum, int depth) {
            if (here[dream] == 0 && length < MOST_DREAMS) {
                here[dream] = 1;
                met[length] = dream;
                metFrom[length] = from;
                metBy[length] = hum;
                metDepth[length] = depth;
                length++;
            }
        }

        int firstWith(int there, int not) {
            for (int at = 0; at < length; at++) {
                if ((met[at] & there) == there && (met[at] & not) == 0) {
                    return at;
                }
            }
            return NOWHERE;
        }

        int firstFree(int number) {
            for (int at = 0; at < length; at++) {
                if (court.verdict(number, met[at]) == FREE) {
                    return at;
                }
            }
            return NOWHERE;
        }

        int humOfRowTo(int at, int k) {
            if (at == NOWHERE) {
                return NONE;
            }
            if (k == -1) {
                return metDepth[at];
            }
            if (k >= metDepth[at]) {
                return NONE;
            }
            int back = at;
            for (int depth = metDepth[at]; depth > k + 1; depth--) {
                back = metFrom[back];
            }
            return metBy[back];
        }

        int verdictsMet(int number) {
            int bits = 0;
            for (int at = 0; at < length; at++) {
                bits |= 1 << court.verdict(number, met[at]);
            }
            return bits;
        }
    }

    /** All orders in which the OPEN CASES can be HEARD. */
    private static final class Orders {
        final Court court;
        final int[] tried = new int[MOST_CASES];
        final int[] best = new int[MOST_CASES];
        final int[] freeBegunBy = new int[MOST_CASES];
        int length, bestFree, bestGuilty;

        Orders(Court court) {
            this.court = court;
        }

        void tryAll() {
            int open = court.casesThatAre(OPEN);
            length = Integer.bitCount(open);
            bestFree = -1;
            bestGuilty = 0;
            Arrays.fill(freeBegunBy, -1);
            tryBehind(0, open, court.dream, 0, 0);
        }

        private void tryBehind(int depth, int left, int dream, int free, int guilty) {
            if (left == 0 || depth >= MOST_CASES) {
                compare(free, guilty);
                return;
            }
            for (int number = 0; number < court.cases; number++) {
                if ((left >> number & 1) != 0) {
                    int verdict = court.verdict(number, dream);
                    tried[depth] = number;
                    tryBehind(depth + 1, left & ~(1 << number), court.dreamHeard(number, dream),
                        free + (verdict == FREE ? 1 : 0), guilty + (verdict == GUILTY ? 1 : 0));
                }
            }
        }

        private void compare(int free, int guilty) {
            if (length > 0) {
                freeBegunBy[tried[0]] = Math.max(freeBegunBy[tried[0]], free);
            }
            if (free > bestFree || free == bestFree && guilty < bestGuilty) {
                bestFree = free;
                bestGuilty = guilty;
                System.arraycopy(tried, 0, best, 0, length);
            }
        }

        int bestToBegin() {
            int begin = NONE;
            int most = -1;
            for (int number = 0; number < court.cases; number++) {
                if (freeBegunBy[number] > most) {
                    begin = number;
                    most = freeBegunBy[number];
                }
            }
            return begin;
        }
    }

    /** HUMS, and DREAMS behind them, that rows tell. */
    private static final class Told {
        static final int NO_HUM = -1, ALL_HUMMED = -1;

        final Court court;
        final int[] hums = new int[MOST_TOLD];
        final int[] dreams = new int[MOST_TOLD];
        int length;

        Told(Court court) {
            this.court = court;
        }

        int takeHums(Rows rows, int row, int i, int n) {
            int finding = rows.lookedAt(row, i, n);
            if (finding != 0) {
                return finding;
            }
            length = Math.min(n, MOST_TOLD);
            for (int k = 0; k < length; k++) {
                hums[k] = rows.items[row][i + k];
                if (!court.isHum(hums[k])) {
                    return KIND;
                }
            }
            return 0;
        }

        int takeDreams(Rows rows, int row, int i, int n) {
            int finding = rows.lookedAt(row, i, n);
            if (finding == 0) {
                System.arraycopy(rows.items[row], i, dreams, 0, length);
            }
            return finding;
        }

        int lastDream(int notHummed) {
            int dream = court.dream;
            for (int k = 0; k < length; k++) {
                dream = k == notHummed ? dream : court.by(hums[k], dream);
            }
            return dream;
        }

        int placesNotHummed(int last) {
            int bits = lastDream(ALL_HUMMED) == last ? AS_IT_IS : 0;
            for (int k = 0; k < length; k++) {
                bits |= lastDream(k) == last ? 1 << k : 0;
            }
            return bits;
        }

        int kindsThatFit(int hum) {
            int bits = 0;
            for (int kind = TUNE; kind <= FEATHER; kind++) {
                bits |= fits(court.dream, hum, kind, court.things[hum], court.others[hum]) ? 1 << kind : 0;
            }
            return bits;
        }

        int thingsThatFit(int hum) {
            int bits = 0;
            for (int thing = 0; thing < court.thingCount; thing++) {
                bits |= fits(court.dream, hum, court.kinds[hum], thing, court.others[hum]) ? 1 << thing : 0;
            }
            return bits;
        }

        int othersThatFit(int hum) {
            int bits = 0;
            for (int other = 0; other < court.thingCount; other++) {
                bits |= fits(court.dream, hum, court.kinds[hum], court.things[hum], other) ? 1 << other : 0;
            }
            return bits;
        }

        int howManyBegan() {
            int many = 0;
            for (int from = 0; from < court.dreamCount(); from++) {
                many += fitsAsItIs(from) ? 1 : 0;
            }
            return many;
        }

        int leastBegan() {
            for (int from = 0; from < court.dreamCount(); from++) {
                if (fitsAsItIs(from)) {
                    return from;
                }
            }
            return NONE;
        }

        private boolean fitsAsItIs(int from) {
            return fits(from, NO_HUM, 0, 0, 0);
        }

        /** Were one HUM of that kind, with that THING and OTHER, and all others as they are. */
        private boolean fits(int from, int hum, int kind, int thing, int other) {
            int dream = from;
            for (int k = 0; k < length; k++) {
                dream = hums[k] == hum ? court.byKind(kind, thing, other, dream) : court.by(hums[k], dream);
                if (dream != dreams[k]) {
                    return false;
                }
            }
            return true;
        }
    }

    /** ASKS of HUMS by BODIES, and THE TRACE of them. */
    private static final class Asking {
        static final int LONGEST = 16, DEEPEST = 16;
        // The BODY that begins, by the KIND of the HUM.
        private static final int[] SIZE_BODIES = {10, 11, 12, 11, 13, 14};
        private static final int[] MARK_BODIES = {20, 21, 24, 22, 23, 23};

        final Court court;
        final int[] begun = new int[LONGEST];
        int length;

        Asking(Court court) {
            this.court = court;
        }

        int answer(int hum, int what) {
            length = 0;
            return begin(what == 0 ? sizeBody(hum) : markBody(hum), hum, 0);
        }

        private int sizeBody(int hum) {
            return SIZE_BODIES[court.kinds[hum]];
        }

        private int markBody(int hum) {
            return MARK_BODIES[court.kinds[hum]];
        }

        private int begin(int body, int hum, int depth) {
            if (depth >= DEEPEST) {
                return 0;
            }
            leave(body);
            int below = depth + 1;
            switch (body) {
                case 10: return court.things[hum];
                case 11: return begin(10, hum, below) + begin(markBody(hum), hum, below);
                case 12: return -begin(11, hum, below);
                case 13: return begin(10, hum, below) - 100;
                case 14: return 2 * begin(13, hum, below);
                case 20: return hum;
                case 21: return begin(20, hum, below) + Integer.bitCount(court.dream);
                case 22: return begin(21, hum, below) - 1000;
                case 23: return begin(20, hum, below) - begin(sizeBody(hum), hum, below);
                case 24: return 2 * begin(21, hum, below);
                default: return 0;
            }
        }

        private void leave(int body) {
            if (length < LONGEST) {
                begun[length] = body;
                length++;
            }
        }
    }
}
