import java.util.ArrayDeque;
import java.util.ArrayList;
import java.util.Arrays;
import java.util.Deque;
import java.util.HashSet;
import java.util.List;
import java.util.Set;
import java.util.TreeSet;

/** The document once more, by other means than the program's (sets, objects, exceptions), to hold the program against. */
public final class NaiveJudge {
    static final int NONE = -1000000, BAD = -1000001, STATE = -1000002, FULL = -1000003;

    // ---- answers that end a call

    static final class Refused extends RuntimeException {
        final long answer;

        Refused(long answer) {
            super(null, null, false, false);
            this.answer = answer;
        }
    }

    static final class Fault extends RuntimeException {
        final int number;
        final int place;

        Fault(int number, int place) {
            super(null, null, false, false);
            this.number = number;
            this.place = place;
        }
    }

    interface Call {
        long answer();
    }

    static void refuseUnless(boolean fine, long answer) {
        if (!fine) {
            throw new Refused(answer);
        }
    }

    static void bad(boolean wrong) {
        refuseUnless(!wrong, BAD);
    }

    static boolean in(int low, int x, int high) {
        return low <= x && x <= high;
    }

    private static int plain(Call call) {
        try {
            return (int) call.answer();
        } catch (Refused refused) {
            return (int) refused.answer;
        }
    }

    private int withStatus(Call call) {
        int answer = plain(call);
        if (answer <= -1000011 && answer >= -1000015) {
            status = -1000010 - answer;
        } else if (answer != BAD && answer != STATE && answer != FULL) {
            status = 0;
        }
        return answer;
    }

    // ---- HUMS, by classes

    interface Asked {
        int number();

        int thing();

        NaiveJudge judge();

        default int size() {
            judge().begin(10);
            return thing();
        }

        default int mark() {
            judge().begin(20);
            return number();
        }
    }

    abstract static class Hum implements Asked {
        final NaiveJudge judge;
        final int number;
        final int other;
        int thing;

        Hum(NaiveJudge judge, int number, int thing, int other) {
            this.judge = judge;
            this.number = number;
            this.thing = thing;
            this.other = other;
        }

        public int number() {
            return number;
        }

        public int thing() {
            return thing;
        }

        public NaiveJudge judge() {
            return judge;
        }

        abstract int kind();

        abstract void change(Set<Integer> dream, int things);
    }

    static class Tune extends Hum {
        Tune(NaiveJudge judge, int number, int thing, int other) {
            super(judge, number, thing, other);
        }

        int kind() {
            return 1;
        }

        void change(Set<Integer> dream, int things) {
            dream.add(thing);
        }

        public int size() {
            judge.begin(11);
            int ten = super.size();
            return ten + mark();
        }

        public int mark() {
            judge.begin(21);
            return super.mark() + judge.world.dream.size();
        }
    }

    static final class Cheese extends Tune {
        Cheese(NaiveJudge judge, int number, int thing, int other) {
            super(judge, number, thing, other);
        }

        int kind() {
            return 2;
        }

        void change(Set<Integer> dream, int things) {
            super.change(dream, things);
            dream.add((thing + 1) % things);
        }

        public int size() {
            judge.begin(12);
            return 0 - super.size();
        }

        public int mark() {
            judge.begin(24);
            return 2 * super.mark();
        }
    }

    static final class Steps extends Tune {
        Steps(NaiveJudge judge, int number, int thing, int other) {
            super(judge, number, thing, other);
        }

        int kind() {
            return 3;
        }

        void change(Set<Integer> dream, int things) {
            if (dream.contains(other)) {
                super.change(dream, things);
            }
        }

        public int mark() {
            judge.begin(22);
            return super.mark() - 1000;
        }
    }

    static class Rain extends Hum {
        Rain(NaiveJudge judge, int number, int thing, int other) {
            super(judge, number, thing, other);
        }

        int kind() {
            return 4;
        }

        void change(Set<Integer> dream, int things) {
            dream.remove(other);
        }

        public int size() {
            judge.begin(13);
            return super.size() - 100;
        }

        public int mark() {
            judge.begin(23);
            int twenty = super.mark();
            return twenty - size();
        }
    }

    static final class Feather extends Rain {
        Feather(NaiveJudge judge, int number, int thing, int other) {
            super(judge, number, thing, other);
        }

        int kind() {
            return 5;
        }

        void change(Set<Integer> dream, int things) {
            boolean was = dream.contains(other);
            super.change(dream, things);
            if (was) {
                dream.add(thing);
            }
        }

        public int size() {
            judge.begin(14);
            return super.size() * 2;
        }
    }

    Hum humOf(int kind, int number, int thing, int other) {
        switch (kind) {
            case 1: return new Tune(this, number, thing, other);
            case 2: return new Cheese(this, number, thing, other);
            case 3: return new Steps(this, number, thing, other);
            case 4: return new Rain(this, number, thing, other);
            default: return new Feather(this, number, thing, other);
        }
    }

    // ---- the COURT

    static final class Trial {
        final int plea, loses, wins;
        int way = 0;

        Trial(int plea, int loses, int wins) {
            this.plea = plea;
            this.loses = loses;
            this.wins = wins;
        }
    }

    final class World {
        int things, wears, perNight, hummed, night;
        TreeSet<Integer> dream = new TreeSet<>();
        final List<Hum> hums = new ArrayList<>();
        final List<Trial> cases = new ArrayList<>();

        World copy() {
            World w = new World();
            w.things = things;
            w.wears = wears;
            w.perNight = perNight;
            w.hummed = hummed;
            w.night = night;
            w.dream = new TreeSet<>(dream);
            for (Hum h : hums) {
                w.hums.add(humOf(h.kind(), h.number, h.thing, h.other));
            }
            for (Trial c : cases) {
                Trial d = new Trial(c.plea, c.loses, c.wins);
                d.way = c.way;
                w.cases.add(d);
            }
            return w;
        }

        void sound(int hum) {
            hums.get(hum).change(dream, things);
        }

        int judged(int number) {
            Trial c = cases.get(number);
            return dream.contains(c.loses) ? 2 : dream.contains(c.wins) ? 1 : 0;
        }

        int hearing(int number) {
            sound(cases.get(number).plea);
            int verdict = judged(number);
            while (dream.size() > wears) {
                dream.pollLast();
            }
            cases.get(number).way = verdict;
            night++;
            hummed = 0;
            return verdict;
        }

        int bits(int... ways) {
            int all = 0;
            for (int k = 0; k < cases.size(); k++) {
                for (int way : ways) {
                    if (cases.get(k).way == way) {
                        all += 1 << k;
                    }
                }
            }
            return all;
        }

        World dreaming(int number) {
            World w = copy();
            w.dream = setOf(number);
            return w;
        }
    }

    static TreeSet<Integer> setOf(int number) {
        TreeSet<Integer> set = new TreeSet<>();
        for (int k = 0; k < 31; k++) {
            if ((number & 1 << k) != 0) {
                set.add(k);
            }
        }
        return set;
    }

    static int numberOf(Set<Integer> set) {
        int sum = 0;
        for (int k : set) {
            sum += 1 << k;
        }
        return sum;
    }

    // ---- what an object holds

    private final Object[] rows = new Object[8];
    private final List<Integer> tape = new ArrayList<>();
    private final Deque<World> history = new ArrayDeque<>();
    private final World[] images = new World[2];
    private final List<Integer> begun = new ArrayList<>();
    World world = null;
    private int status = 0;
    private int latestFault = 0;

    void begin(int body) {
        if (begun.size() < 16) {
            begun.add(body);
        }
    }

    private void needCourt() {
        refuseUnless(world != null, STATE);
    }

    private boolean isHum(int h) {
        return world != null && in(0, h, world.hums.size() - 1);
    }

    private boolean isCase(int c) {
        return world != null && in(0, c, world.cases.size() - 1);
    }

    private boolean isThing(int t) {
        return world != null && in(0, t, world.things - 1);
    }

    private boolean isDream(int d) {
        return in(0, d, (int) Math.pow(2, world.things) - 1);
    }

    private void keepAct() {
        history.addLast(world.copy());
        if (history.size() > 24) {
            history.removeFirst();
        }
    }

    // ---- rows: arrays of Java's own

    private static int lengthOf(Object row) {
        return java.lang.reflect.Array.getLength(row);
    }

    private static int itemOf(Object row, int i) {
        return ((Number) java.lang.reflect.Array.get(row, i)).intValue();
    }

    public int row(int row, int lane, int n) {
        return withStatus(() -> {
            bad(!in(0, row, 7) || !in(0, lane, 2) || n > 40);
            refuseUnless(n >= 0, -1000014);
            rows[row] = lane == 0 ? new byte[n] : lane == 1 ? new short[n] : (Object) new int[n];
            return n;
        });
    }

    public int set(int row, int i, int v) {
        return withStatus(() -> {
            bad(!in(0, row, 7));
            refuseUnless(rows[row] != null, -1000011);
            refuseUnless(in(0, i, lengthOf(rows[row]) - 1), -1000012);
            if (rows[row] instanceof byte[]) {
                ((byte[]) rows[row])[i] = (byte) v;
            } else if (rows[row] instanceof short[]) {
                ((short[]) rows[row])[i] = (short) v;
            } else {
                ((int[]) rows[row])[i] = v;
            }
            return itemOf(rows[row], i);
        });
    }

    public int copy(int a, int i, int b, int j, int n) {
        return withStatus(() -> {
            bad(!in(0, a, 7) || !in(0, b, 7));
            refuseUnless(rows[a] != null && rows[b] != null, -1000011);
            refuseUnless(rows[a].getClass() == rows[b].getClass(), -1000015);
            try {
                System.arraycopy(rows[a], i, rows[b], j, n);
            } catch (IndexOutOfBoundsException e) {
                throw new Refused(-1000012);
            }
            return n;
        });
    }

    public int drop(int row) {
        return withStatus(() -> {
            bad(!in(0, row, 7));
            refuseUnless(rows[row] != null, -1000011);
            int had = lengthOf(rows[row]);
            rows[row] = null;
            return had;
        });
    }

    // ---- the text

    public int feed(int letter) {
        return plain(() -> {
            bad(!in(0, letter, 255));
            refuseUnless(tape.size() < 120, FULL);
            tape.add(letter);
            return tape.size();
        });
    }

    public int court() {
        StringBuilder text = new StringBuilder();
        for (int letter : tape) {
            text.append((char) letter);
        }
        tape.clear();
        try {
            world = new Text(text.toString()).read();
            history.clear();
            return world.hums.size();
        } catch (Fault fault) {
            latestFault = fault.number;
            return -1000100 - fault.place;
        }
    }

    /** TOKENS first, all of them, then the grammar over these. */
    final class Text {
        final List<String> tokens = new ArrayList<>();
        final List<Integer> places = new ArrayList<>();
        int at = 0;

        Text(String text) {
            int k = 0;
            while (k < text.length()) {
                int end = k + 1;
                while (isFigure(text, k) && end < text.length() && isFigure(text, end)) {
                    end++;
                }
                tokens.add(text.substring(k, end));
                places.add(k);
                k = end;
            }
            tokens.add("END");
            places.add(text.length());
        }

        boolean isFigure(String text, int k) {
            return "0123456789".indexOf(text.charAt(k)) >= 0;
        }

        Fault faultHere(int number) {
            return new Fault(number, places.get(at));
        }

        boolean sees(String token) {
            return tokens.get(at).equals(token);
        }

        void eat(String token) {
            if (!sees(token)) {
                throw faultHere(1);
            }
            at++;
        }

        int number(int low, int high, int not) {
            if (!tokens.get(at).matches("[0-9]{1,2}")) {
                throw faultHere(1);
            }
            int value = Integer.parseInt(tokens.get(at));
            if (!in(low, value, high) || value == not) {
                throw faultHere(2);
            }
            at++;
            return value;
        }

        World read() {
            World w = new World();
            eat("j");
            w.things = number(3, 8, -1);
            eat(",");
            w.wears = number(0, 8, -1);
            eat(",");
            w.perNight = number(1, 9, -1);
            eat(";");
            eat("d");
            w.dream.add(number(0, w.things - 1, -1));
            while (sees(",")) {
                eat(",");
                w.dream.add(number(0, w.things - 1, -1));
            }
            eat(";");
            do {
                readHum(w);
            } while (tokens.get(at).matches("[tcsrf]"));
            while (sees("v")) {
                readCase(w);
            }
            eat("END");
            return w;
        }

        void readHum(World w) {
            if (!tokens.get(at).matches("[tcsrf]")) {
                throw faultHere(1);
            }
            if (w.hums.size() == 6) {
                throw faultHere(3);
            }
            int kind = "?tcsrf".indexOf(tokens.get(at));
            at++;
            int thing = number(0, w.things - 1, -1);
            eat(",");
            int other = number(0, w.things - 1, -1);
            eat(";");
            w.hums.add(humOf(kind, w.hums.size(), thing, other));
        }

        void readCase(World w) {
            if (w.cases.size() == 5) {
                throw faultHere(3);
            }
            eat("v");
            int plea = number(0, w.hums.size() - 1, -1);
            eat(",");
            int loses = number(0, w.things - 1, -1);
            eat(",");
            int wins = number(0, w.things - 1, loses);
            eat(";");
            w.cases.add(new Trial(plea, loses, wins));
        }
    }

    public int fault() {
        return latestFault;
    }

    public int undo() {
        return plain(() -> {
            refuseUnless(!history.isEmpty(), STATE);
            world = history.removeLast();
            return history.size();
        });
    }

    // ---- what is done

    public int hum(int hum) {
        return plain(() -> {
            bad(!isHum(hum));
            refuseUnless(world.hummed < world.perNight, FULL);
            keepAct();
            world.sound(hum);
            world.hummed++;
            return numberOf(world.dream);
        });
    }

    public int hear(int number) {
        return plain(() -> {
            bad(!isCase(number));
            refuseUnless(world.cases.get(number).way == 0, STATE);
            keepAct();
            return world.hearing(number);
        });
    }

    public int appeal(int number) {
        return plain(() -> {
            bad(!isCase(number));
            Trial c = world.cases.get(number);
            refuseUnless(c.way == 2, STATE);
            keepAct();
            boolean again = world.dream.contains(c.wins) && !world.dream.contains(c.loses);
            c.way = again ? 0 : 3;
            return again ? 1 : 0;
        });
    }

    public int forget(int thing) {
        return plain(() -> {
            bad(!isThing(thing));
            refuseUnless(world.dream.contains(thing), STATE);
            keepAct();
            world.dream.remove(thing);
            return numberOf(world.dream);
        });
    }

    public int learn(int hum, int thing) {
        return plain(() -> {
            bad(!isHum(hum) || !isThing(thing));
            keepAct();
            int was = world.hums.get(hum).thing;
            world.hums.get(hum).thing = thing;
            return was;
        });
    }

    public int ofHum(int hum, int what) {
        return plain(() -> {
            bad(!isHum(hum) || !in(0, what, 2));
            Hum h = world.hums.get(hum);
            World w = world.copy();
            w.sound(hum);
            return what == 0 ? h.thing : what == 1 ? h.other : numberOf(w.dream);
        });
    }

    public int ofCase(int number, int what) {
        return plain(() -> {
            bad(!isCase(number) || !in(0, what, 4));
            Trial c = world.cases.get(number);
            return new int[] {c.plea, c.loses, c.wins, c.way, world.copy().hearing(number)}[what];
        });
    }

    public int stand(int what) {
        return plain(() -> {
            needCourt();
            bad(!in(0, what, 4));
            return new int[] {numberOf(world.dream), world.hummed, world.bits(0), world.bits(1), world.bits(2, 3)}[what];
        });
    }

    // ---- foretold

    private int[] window(int row, int i, int n) {
        refuseUnless(rows[row] != null, -1000011);
        refuseUnless(i >= 0 && (long) i + n <= lengthOf(rows[row]), -1000012);
        int[] items = new int[n];
        for (int k = 0; k < n; k++) {
            items[k] = itemOf(rows[row], i + k);
        }
        return items;
    }

    private int[] humsOf(int row, int i, int n) {
        int[] items = window(row, i, n);
        for (int item : items) {
            refuseUnless(isHum(item), -1000013);
        }
        return items;
    }

    private static List<Integer> dreamsAlong(World start, int[] hums) {
        World w = start.copy();
        List<Integer> all = new ArrayList<>();
        for (int hum : hums) {
            w.sound(hum);
            all.add(numberOf(w.dream));
        }
        return all;
    }

    public int sleep(int row, int i, int n) {
        return withStatus(() -> {
            needCourt();
            bad(!in(0, row, 7) || !in(1, n, 12));
            return dreamsAlong(world, humsOf(row, i, n)).get(n - 1);
        });
    }

    private int nextDream(int dream, int hum) {
        World w = world.dreaming(dream);
        w.sound(hum);
        return numberOf(w.dream);
    }

    private TreeSet<Integer> behind(int n) {
        TreeSet<Integer> all = new TreeSet<>();
        all.add(numberOf(world.dream));
        for (int k = 0; k < n; k++) {
            TreeSet<Integer> next = new TreeSet<>();
            for (int dream : all) {
                for (int hum = 0; hum < world.hums.size(); hum++) {
                    next.add(nextDream(dream, hum));
                }
            }
            all = next;
        }
        return all;
    }

    public int dreams(int n, int what) {
        return plain(() -> {
            needCourt();
            bad(!in(0, n, 8) || !in(0, what, 4));
            TreeSet<Integer> all = behind(n);
            TreeSet<Integer> both = setOf(255);
            TreeSet<Integer> any = new TreeSet<>();
            for (int dream : all) {
                both.retainAll(setOf(dream));
                any.addAll(setOf(dream));
            }
            return new int[] {all.size(), numberOf(both), numberOf(any), all.first(), all.last()}[what];
        });
    }

    interface Aim {
        boolean isMet(int dream);
    }

    /** The first shortest row, by how far each DREAM is from the aim (not by a walk from the DREAM there is). */
    private List<Integer> rowTo(Aim aim) {
        int many = 1 << world.things;
        int[] far = new int[many];
        int[][] next = new int[many][world.hums.size()];
        for (int d = 0; d < many; d++) {
            far[d] = aim.isMet(d) ? 0 : 99;
            for (int hum = 0; hum < world.hums.size(); hum++) {
                next[d][hum] = nextDream(d, hum);
            }
        }
        for (int round = 0; round < 12; round++) {
            int[] was = far.clone();
            for (int d = 0; d < many; d++) {
                for (int to : next[d]) {
                    far[d] = Math.min(far[d], was[to] + 1);
                }
            }
        }
        int at = numberOf(world.dream);
        if (far[at] > 12) {
            return null;
        }
        List<Integer> row = new ArrayList<>();
        while (far[at] > 0) {
            int hum = 0;
            while (far[next[at][hum]] != far[at] - 1) {
                hum++;
            }
            row.add(hum);
            at = next[at][hum];
        }
        return row;
    }

    private static int partOf(List<Integer> row, int k) {
        if (row == null) {
            return NONE;
        }
        return k == -1 ? row.size() : k < row.size() ? row.get(k) : NONE;
    }

    public int least(int there, int not, int k) {
        return plain(() -> {
            needCourt();
            bad(!isDream(there) || !isDream(not) || k < -1);
            return partOf(rowTo(d -> setOf(d).containsAll(setOf(there)) && java.util.Collections.disjoint(setOf(d), setOf(not))), k);
        });
    }

    public int save(int number, int k) {
        return plain(() -> {
            bad(!isCase(number) || k < -1);
            return partOf(rowTo(d -> world.dreaming(d).hearing(number) == 1), k);
        });
    }

    public int can(int number, int n) {
        return plain(() -> {
            bad(!isCase(number) || !in(0, n, 8));
            Set<Integer> verdicts = new HashSet<>();
            for (int k = 0; k <= n; k++) {
                for (int dream : behind(k)) {
                    verdicts.add(world.dreaming(dream).hearing(number));
                }
            }
            return numberOf(verdicts);
        });
    }

    private List<List<Integer>> allOrders(List<Integer> of) {
        List<List<Integer>> all = new ArrayList<>();
        if (of.isEmpty()) {
            all.add(new ArrayList<>());
        }
        for (Integer begin : of) {
            List<Integer> rest = new ArrayList<>(of);
            rest.remove(begin);
            for (List<Integer> order : allOrders(rest)) {
                order.add(0, begin);
                all.add(order);
            }
        }
        return all;
    }

    private int[] freeAndGuilty(List<Integer> order) {
        World w = world.copy();
        int[] many = new int[3];
        for (int number : order) {
            many[w.hearing(number)]++;
        }
        return new int[] {many[1], many[2]};
    }

    private List<Integer> openCases() {
        return new ArrayList<>(setOf(world.bits(0)));
    }

    public int order(int k) {
        return plain(() -> {
            needCourt();
            bad(k < -2);
            List<Integer> best = null;
            int bestWorth = -1;
            for (List<Integer> order : allOrders(openCases())) {
                int[] many = freeAndGuilty(order);
                int worth = 100 * many[0] + 50 - many[1];
                if (worth > bestWorth) {
                    bestWorth = worth;
                    best = order;
                }
            }
            int[] many = freeAndGuilty(best);
            return k == -1 ? many[0] : k == -2 ? many[1] : k < best.size() ? best.get(k) : NONE;
        });
    }

    public int first() {
        return plain(() -> {
            needCourt();
            int most = -1;
            int begin = NONE;
            for (List<Integer> order : allOrders(openCases())) {
                if (!order.isEmpty() && freeAndGuilty(order)[0] > most) {
                    most = freeAndGuilty(order)[0];
                    begin = order.get(0);
                }
            }
            return begin;
        });
    }

    interface Pair {
        boolean fits(int one, int other);
    }

    private static int pairs(int many, int what, Pair pair) {
        List<Integer> all = new ArrayList<>();
        for (int p = 0; p < 100; p++) {
            if (p / 10 < p % 10 && p % 10 < many && pair.fits(p / 10, p % 10)) {
                all.add(p);
            }
        }
        return what == 0 ? all.size() : all.isEmpty() ? NONE : all.get(0);
    }

    public int clashes(int what) {
        return plain(() -> {
            needCourt();
            bad(!in(0, what, 1));
            return pairs(world.cases.size(), what, (a, b) ->
                world.cases.get(a).wins == world.cases.get(b).loses || world.cases.get(b).wins == world.cases.get(a).loses);
        });
    }

    public int deaf() {
        return plain(() -> {
            needCourt();
            int bits = 0;
            for (int hum = 0; hum < world.hums.size(); hum++) {
                World w = world.copy();
                w.sound(hum);
                bits += w.dream.equals(world.dream) ? 1 << hum : 0;
            }
            return bits;
        });
    }

    public int same(int what) {
        return plain(() -> {
            needCourt();
            bad(!in(0, what, 1));
            return pairs(world.hums.size(), what, (a, b) -> {
                for (int d = 0; d < 1 << world.things; d++) {
                    if (nextDream(d, a) != nextDream(d, b)) {
                        return false;
                    }
                }
                return true;
            });
        });
    }

    private static List<Integer> listOf(int[] items) {
        List<Integer> all = new ArrayList<>();
        for (int item : items) {
            all.add(item);
        }
        return all;
    }

    public int who(int hum, int which, int row, int i, int other, int j, int n) {
        return withStatus(() -> {
            bad(!isHum(hum) || !in(0, which, 2) || !in(0, row, 7) || !in(0, other, 7) || !in(1, n, 12));
            int[] hums = humsOf(row, i, n);
            List<Integer> dreamt = listOf(window(other, j, n));
            Hum h = world.hums.get(hum);
            int bits = 0;
            for (int x = which == 0 ? 1 : 0; x <= (which == 0 ? 5 : world.things - 1); x++) {
                World w = world.copy();
                w.hums.set(hum, humOf(which == 0 ? x : h.kind(), hum, which == 1 ? x : h.thing, which == 2 ? x : h.other));
                bits += dreamsAlong(w, hums).equals(dreamt) ? 1 << x : 0;
            }
            return bits;
        });
    }

    public int began(int what, int row, int i, int other, int j, int n) {
        return withStatus(() -> {
            needCourt();
            bad(!in(0, what, 1) || !in(0, row, 7) || !in(0, other, 7) || !in(1, n, 12));
            int[] hums = humsOf(row, i, n);
            List<Integer> dreamt = listOf(window(other, j, n));
            TreeSet<Integer> all = new TreeSet<>();
            for (int d = 0; d < 1 << world.things; d++) {
                if (dreamsAlong(world.dreaming(d), hums).equals(dreamt)) {
                    all.add(d);
                }
            }
            return what == 0 ? all.size() : all.isEmpty() ? NONE : all.first();
        });
    }

    public int snored(int dream, int row, int i, int n) {
        return withStatus(() -> {
            needCourt();
            bad(!isDream(dream) || !in(0, row, 7) || !in(1, n, 12));
            int[] hums = humsOf(row, i, n);
            int bits = dreamsAlong(world, hums).get(n - 1) == dream ? 4096 : 0;
            for (int k = 0; k < n; k++) {
                World w = world.copy();
                for (int hum : Arrays.copyOfRange(hums, 0, k)) {
                    w.sound(hum);
                }
                for (int hum : Arrays.copyOfRange(hums, k + 1, n)) {
                    w.sound(hum);
                }
                bits += numberOf(w.dream) == dream ? 1 << k : 0;
            }
            return bits;
        });
    }

    public long gone(int number, int p, int what) {
        if (!isCase(number) || !in(0, p, 10) || !in(0, what, 1)) {
            return BAD;
        }
        long above = parts(number, p, new ArrayList<>(world.dream), new TreeSet<>());
        long below = 1;
        for (int k = 0; k < world.dream.size(); k++) {
            below *= 10;
        }
        for (long by : new long[] {2, 5}) {
            while (above % by == 0 && below % by == 0) {
                above /= by;
                below /= by;
            }
        }
        return what == 0 ? above : below;
    }

    private long parts(int number, int p, List<Integer> unknown, TreeSet<Integer> kept) {
        if (unknown.isEmpty()) {
            return world.dreaming(numberOf(kept)).hearing(number) == 1 ? 1 : 0;
        }
        List<Integer> rest = unknown.subList(1, unknown.size());
        TreeSet<Integer> more = new TreeSet<>(kept);
        more.add(unknown.get(0));
        return p * parts(number, p, rest, kept) + (10 - p) * parts(number, p, rest, more);
    }

    public int drawn(int n, int seed, int what) {
        return plain(() -> {
            needCourt();
            bad(!in(0, n, 60) || !in(1, seed, 999999) || !in(0, what, 1));
            World w = world.copy();
            java.math.BigInteger x = java.math.BigInteger.valueOf(seed);
            for (int k = 0; k < n; k++) {
                x = x.multiply(java.math.BigInteger.valueOf(16807)).mod(java.math.BigInteger.valueOf(2147483647));
                int value = x.intValueExact();
                if (value % 4 == 0 && !w.cases.isEmpty()) {
                    int number = value % w.cases.size();
                    if (w.cases.get(number).way == 0) {
                        w.hearing(number);
                    }
                } else {
                    w.sound(value % w.hums.size());
                }
            }
            return what == 0 ? Integer.bitCount(w.bits(1)) : numberOf(w.dream);
        });
    }

    public int image(int k) {
        return plain(() -> {
            bad(!in(0, k, 1));
            needCourt();
            images[k] = world.copy();
            return 1;
        });
    }

    public int restore(int k) {
        return plain(() -> {
            bad(!in(0, k, 1));
            refuseUnless(images[k] != null, STATE);
            world = images[k].copy();
            history.clear();
            return 1;
        });
    }

    // ---- asked

    public int kind(int one) {
        return plain(() -> {
            bad(!isHum(one));
            return world.hums.get(one).kind();
        });
    }

    public int as(int one, int kind) {
        return withStatus(() -> {
            bad(!isHum(one) || !in(0, kind, 5));
            Class<?>[] kinds = {Hum.class, Tune.class, Cheese.class, Steps.class, Rain.class, Feather.class};
            refuseUnless(kinds[kind].isInstance(world.hums.get(one)), -1000013);
            return one;
        });
    }

    public int ask(int one, int what) {
        return plain(() -> {
            bad(!isHum(one) || !in(0, what, 1));
            begun.clear();
            return what == 0 ? world.hums.get(one).size() : world.hums.get(one).mark();
        });
    }

    public int trace(int i) {
        return in(0, i, begun.size() - 1) ? begun.get(i) : NONE;
    }

    public int count(int what) {
        switch (what) {
            case 0: return (int) Arrays.stream(rows).filter(r -> r != null).count();
            case 1: return world == null ? 0 : world.things;
            case 2: return world == null ? 0 : world.hums.size();
            case 3: return world == null ? 0 : world.cases.size();
            case 4: return world == null ? 0 : world.night;
            case 5: return world == null ? 0 : numberOf(world.dream);
            case 6: return history.size();
            case 7: return tape.size();
            default: return BAD;
        }
    }

    public int status() {
        return status;
    }
}
