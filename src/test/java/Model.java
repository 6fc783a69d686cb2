import java.math.BigDecimal;
import java.math.RoundingMode;
import java.time.DateTimeException;
import java.time.LocalDate;
import java.time.LocalDateTime;
import java.util.ArrayDeque;
import java.util.ArrayList;
import java.util.Arrays;
import java.util.Deque;
import java.util.List;
import java.util.NoSuchElementException;
import java.util.TreeMap;

/**
 * The document once more, written to be compared with: it knows no clever way, but tries all
 * that there is (all sets of acts, all rows of an evening, all rain plans) or lets it happen
 * minute by minute (lines, waits, crowds).
 */
public final class Model {
    private static final int ACTS = 16;

    private static final class Act {
        int stage;
        final int begin;
        final int length;
        final int check;
        final int members;

        Act(int stage, int begin, int length, int check, int members) {
            this.stage = stage;
            this.begin = begin;
            this.length = length;
            this.check = check;
            this.members = members;
        }

        int end() {
            return begin + length;
        }

        boolean meets(Act other) {
            for (int minute = begin - check; minute < end(); minute++) {
                if (minute >= other.begin - other.check && minute < other.end()) {
                    return true;
                }
            }
            return false;
        }

        boolean clashes(Act other) {
            return meets(other) && (stage == other.stage || (members & other.members) != 0);
        }
    }

    private static final class State {
        LocalDate date = LocalDate.of(2026, 6, 1);
        boolean[] open = new boolean[4];
        int[][] ways = new int[4][4];
        TreeMap<Integer, Act> acts = new TreeMap<>();
        int[][] wishes = new int[12][ACTS];
        int[] gates = new int[3];
        int[][] reach = new int[3][4];
        int[] crowds = new int[4];
        int serving = 3;
        List<List<Integer>> lines = List.of(
                new ArrayList<>(), new ArrayList<>(), new ArrayList<>());
        List<Integer> joined = new ArrayList<>();
        int[] left = new int[3];
        int served = 0;
        int[] needs = new int[24];
        int shift = 8;
        int[] loads = new int[24];
        int[][] generators = new int[4][3];
        int[] prices = {20, 20, 20, 20};
        TreeMap<Integer, Integer> tickets = new TreeMap<>();
        long house = 0;
        long[] visitors = new long[12];
        long[] musicians = new long[12];
        TreeMap<Integer, Integer> lost = new TreeMap<>();

        State() {
            for (int[] row : ways) {
                Arrays.fill(row, 10);
            }
            for (int[] row : reach) {
                Arrays.fill(row, 10);
            }
        }

        State copy() {
            State s = new State();
            s.date = date;
            s.open = open.clone();
            s.ways = deep(ways);
            for (int number : acts.keySet()) {
                Act a = acts.get(number);
                s.acts.put(number, new Act(a.stage, a.begin, a.length, a.check, a.members));
            }
            s.wishes = deep(wishes);
            s.gates = gates.clone();
            s.reach = deep(reach);
            s.crowds = crowds.clone();
            s.serving = serving;
            s.lines = List.of(new ArrayList<>(lines.get(0)), new ArrayList<>(lines.get(1)),
                    new ArrayList<>(lines.get(2)));
            s.joined = new ArrayList<>(joined);
            s.left = left.clone();
            s.served = served;
            s.needs = needs.clone();
            s.shift = shift;
            s.loads = loads.clone();
            s.generators = deep(generators);
            s.prices = prices.clone();
            s.tickets = new TreeMap<>(tickets);
            s.house = house;
            s.visitors = visitors.clone();
            s.musicians = musicians.clone();
            s.lost = new TreeMap<>(lost);
            return s;
        }

        private static int[][] deep(int[][] rows) {
            int[][] copy = new int[rows.length][];
            for (int i = 0; i < rows.length; i++) {
                copy[i] = rows[i].clone();
            }
            return copy;
        }
    }

    private State s = new State();
    private final Deque<State> past = new ArrayDeque<>();
    private TreeMap<Integer, Integer> rainPlan = null;
    /** The best lineup, till the next change; -1 if it is not known. */
    private int lineup = -1;

    private void change() {
        past.push(s.copy());
        if (past.size() > 8) {
            past.removeLast();
        }
        rainPlan = null;
        lineup = -1;
    }

    private static void index(boolean isThere) {
        if (!isThere) {
            throw new IndexOutOfBoundsException();
        }
    }

    private static void number(boolean isInRange) {
        if (!isInRange) {
            throw new IllegalArgumentException();
        }
    }

    private static void state(boolean isRight) {
        if (!isRight) {
            throw new IllegalStateException();
        }
    }

    private static void element(boolean isThere) {
        if (!isThere) {
            throw new NoSuchElementException();
        }
    }

    private static boolean in(int number, int least, int most) {
        return least <= number && number <= most;
    }

    // ---- time, stages, acts, wishes

    public int setDate(int year, int month, int day) {
        number(in(year, 1, 9990));
        LocalDate date = null;
        try {
            date = LocalDate.of(year, month, day);
        } catch (DateTimeException e) {
            number(false);
        }
        change();
        s.date = date;
        return date.getDayOfWeek().getValue();
    }

    public boolean setOpen(int stage, boolean isOpen) {
        index(in(stage, 0, 3));
        change();
        boolean was = s.open[stage];
        s.open[stage] = isOpen;
        return was;
    }

    public int setWay(int stage, int other, int minutes) {
        index(in(stage, 0, 3) && in(other, 0, 3));
        number(stage != other && in(minutes, 1, 60));
        change();
        s.ways[stage][other] = minutes;
        s.ways[other][stage] = minutes;
        return walk(stage, other);
    }

    public int act(int stage, int begin, int length, int check, int members) {
        index(in(stage, 0, 3));
        number(in(begin, 0, 5759) && in(length, 10, 240) && in(check, 0, 60)
                && in(members, 1, 4095) && begin - check >= 0 && begin + length <= 5760);
        state(s.acts.size() < 16);
        change();
        int number = 0;
        while (s.acts.containsKey(number)) {
            number++;
        }
        s.acts.put(number, new Act(stage, begin, length, check, members));
        return number;
    }

    public int drop(int act) {
        index(s.acts.containsKey(act));
        change();
        int pleases = pleasing(act);
        remove(act);
        return pleases;
    }

    private void remove(int act) {
        s.acts.remove(act);
        for (int[] row : s.wishes) {
            row[act] = 0;
        }
    }

    private int pleasing(int act) {
        int sum = 0;
        for (int[] row : s.wishes) {
            sum += row[act];
        }
        return sum;
    }

    public int wish(int visitor, int act, int weight) {
        index(in(visitor, 0, 11) && s.acts.containsKey(act));
        number(in(weight, 0, 9));
        change();
        int was = s.wishes[visitor][act];
        s.wishes[visitor][act] = weight;
        return was;
    }

    public int dateAt(int minute, int what) {
        number(in(minute, 0, 5759) && in(what, 0, 5));
        LocalDateTime at = s.date.atStartOfDay().plusMinutes(minute);
        return new int[] {at.getYear(), at.getMonthValue(), at.getDayOfMonth(),
            at.getDayOfWeek().getValue(), at.getHour(), at.getMinute()}[what];
    }

    public int walk(int stage, int other) {
        index(in(stage, 0, 3) && in(other, 0, 3));
        return walkBy(stage, other, 0);
    }

    private int walkBy(int stage, int other, int seen) {
        if (stage == other) {
            return 0;
        }
        int least = 1000;
        for (int next = 0; next < 4; next++) {
            if (next != stage && (seen >> next & 1) == 0) {
                least = Math.min(least,
                        s.ways[stage][next] + walkBy(next, other, seen | 1 << stage));
            }
        }
        return least;
    }

    public int actAt(int act, int what) {
        index(s.acts.containsKey(act));
        number(in(what, 0, 6));
        Act a = s.acts.get(act);
        return new int[] {a.stage, a.begin, a.length, a.check, a.members, pleasing(act),
            lineup() >> act & 1}[what];
    }

    public int acts() {
        return s.acts.size();
    }

    public int firstIn(int stage, int from, int to) {
        index(in(stage, 0, 3));
        number(from <= to);
        for (int minute = Math.max(from, 0); minute < Math.min(to, 5760); minute++) {
            for (int act : s.acts.keySet()) {
                if (s.acts.get(act).stage == stage && s.acts.get(act).begin == minute) {
                    return act;
                }
            }
        }
        return -1;
    }

    public boolean clash(int act, int other) {
        index(s.acts.containsKey(act) && s.acts.containsKey(other));
        number(act != other);
        return s.acts.get(act).clashes(s.acts.get(other));
    }

    public int clashes() {
        int count = 0;
        for (int act : s.acts.keySet()) {
            for (int other : s.acts.keySet()) {
                count += act < other && s.acts.get(act).clashes(s.acts.get(other)) ? 1 : 0;
            }
        }
        return count;
    }

    private int all() {
        int set = 0;
        for (int act : s.acts.keySet()) {
            set |= 1 << act;
        }
        return set;
    }

    private int lineup() {
        if (lineup < 0) {
            lineup = bestSet(all());
        }
        return lineup;
    }

    /** Of all sets in a set of acts, without clashes, the best one. */
    private int bestSet(int allowed) {
        int[] foes = new int[ACTS];
        int[] weights = new int[ACTS];
        for (int act : s.acts.keySet()) {
            weights[act] = pleasing(act);
            for (int other : s.acts.keySet()) {
                if (act != other && s.acts.get(act).clashes(s.acts.get(other))) {
                    foes[act] |= 1 << other;
                }
            }
        }
        int best = 0;
        int most = 0;
        for (int set = allowed; set > 0; set = (set - 1) & allowed) {
            int sum = 0;
            boolean isFree = true;
            for (int act = 0; act < ACTS && isFree; act++) {
                if ((set >> act & 1) != 0) {
                    isFree = (foes[act] & set) == 0;
                    sum += weights[act];
                }
            }
            if (isFree && (sum > most || sum == most && isPreferred(set, best))) {
                best = set;
                most = sum;
            }
        }
        return best;
    }

    private static boolean isPreferred(int set, int other) {
        int different = set ^ other;
        return (set & Integer.lowestOneBit(different)) != 0;
    }

    private int pleasingOf(int set) {
        int sum = 0;
        for (int act : s.acts.keySet()) {
            sum += (set >> act & 1) * pleasing(act);
        }
        return sum;
    }

    public int pleased(boolean isBound) {
        if (!isBound) {
            return pleasingOf(lineup());
        }
        int sum = 0;
        for (int stage = 0; stage < 4; stage++) {
            int set = 0;
            for (int act : s.acts.keySet()) {
                set |= s.acts.get(act).stage == stage ? 1 << act : 0;
            }
            sum += pleasingOf(bestSet(set));
        }
        return sum;
    }

    // ---- evenings

    private boolean reaches(Act before, Act act) {
        return act.begin >= before.end() + walk(before.stage, act.stage);
    }

    /** All evenings that go on behind a row; the best one of them goes into best. */
    private void tryRows(int visitor, int day, List<Integer> row, List<Integer> best) {
        int[] wishes = s.wishes[visitor];
        int weight = weight(wishes, row);
        int most = weight(wishes, best);
        if (weight > most || weight == most && isLess(row, best)) {
            best.clear();
            best.addAll(row);
        }
        for (int act : s.acts.keySet()) {
            Act a = s.acts.get(act);
            if (wishes[act] > 0 && a.begin / 1440 == day && (row.isEmpty()
                    || reaches(s.acts.get(row.get(row.size() - 1)), a))) {
                row.add(act);
                tryRows(visitor, day, row, best);
                row.remove(row.size() - 1);
            }
        }
    }

    private static int weight(int[] wishes, List<Integer> row) {
        int sum = 0;
        for (int act : row) {
            sum += wishes[act];
        }
        return sum;
    }

    private static boolean isLess(List<Integer> row, List<Integer> other) {
        for (int i = 0; i < row.size() && i < other.size(); i++) {
            if (!row.get(i).equals(other.get(i))) {
                return row.get(i) < other.get(i);
            }
        }
        return false;
    }

    private List<Integer> bestEvening(int visitor, int day) {
        List<Integer> best = new ArrayList<>();
        tryRows(visitor, day, new ArrayList<>(), best);
        return best;
    }

    public int evening(int visitor, int day) {
        index(in(visitor, 0, 11) && in(day, 0, 3));
        return weight(s.wishes[visitor], bestEvening(visitor, day));
    }

    public int eveningAct(int visitor, int day, int place) {
        index(in(visitor, 0, 11) && in(day, 0, 3));
        List<Integer> row = bestEvening(visitor, day);
        element(in(place, 0, row.size() - 1));
        return row.get(place);
    }

    public int price(int visitor, int act) {
        index(in(visitor, 0, 11) && s.acts.containsKey(act));
        if (s.wishes[visitor][act] == 0) {
            return 0;
        }
        List<Integer> row = new ArrayList<>(List.of(act));
        List<Integer> best = new ArrayList<>();
        tryRows(visitor, s.acts.get(act).begin / 1440, row, best);
        return weight(s.wishes[visitor], best);
    }

    public int listeners(int stage, int minute) {
        index(in(stage, 0, 3));
        number(in(minute, 0, 5759));
        int count = 0;
        for (int visitor = 0; visitor < 12; visitor++) {
            boolean isThere = false;
            for (int day = 0; day < 4; day++) {
                for (int act : bestEvening(visitor, day)) {
                    Act a = s.acts.get(act);
                    isThere |= a.stage == stage && in(minute, a.begin, a.end() - 1);
                }
            }
            count += isThere ? 1 : 0;
        }
        return count;
    }

    public double meanEvening(int day) {
        index(in(day, 0, 3));
        int sum = 0;
        for (int visitor = 0; visitor < 12; visitor++) {
            sum += evening(visitor, day);
        }
        return sum / 12.0;
    }

    // ---- ways out

    public int setGate(int gate, int people) {
        index(in(gate, 0, 2));
        number(in(people, 0, 50));
        change();
        int was = s.gates[gate];
        s.gates[gate] = people;
        return was;
    }

    public int setReach(int gate, int stage, int minutes) {
        index(in(gate, 0, 2) && in(stage, 0, 3));
        number(in(minutes, 1, 30));
        change();
        int was = s.reach[gate][stage];
        s.reach[gate][stage] = minutes;
        return was;
    }

    public int setCrowd(int stage, int people) {
        index(in(stage, 0, 3));
        number(in(people, 0, 2000));
        change();
        int was = s.crowds[stage];
        s.crowds[stage] = people;
        return was;
    }

    private boolean hasTooMany(int set, int minutes) {
        long people = 0;
        long room = 0;
        for (int stage = 0; stage < 4; stage++) {
            people += (set >> stage & 1) * s.crowds[stage];
        }
        for (int gate = 0; gate < 3; gate++) {
            int least = 99;
            for (int stage = 0; stage < 4; stage++) {
                if ((set >> stage & 1) != 0) {
                    least = Math.min(least, s.reach[gate][stage]);
                }
            }
            room += (long) s.gates[gate] * Math.max(0, minutes - least);
        }
        return people > room;
    }

    private int firstTooMany(int minutes) {
        for (int set = 0; set < 16; set++) {
            if (hasTooMany(set, minutes)) {
                return set;
            }
        }
        return 0;
    }

    public int outBy() {
        if (Arrays.stream(s.crowds).sum() == 0) {
            return 0;
        }
        if (Arrays.stream(s.gates).sum() == 0) {
            return -1;
        }
        int minutes = 0;
        while (firstTooMany(minutes) != 0) {
            minutes++;
        }
        if (minutes <= 60 && (!canPass(minutes) || canPass(minutes - 1))) {
            throw new AssertionError("people do not go out as the sets tell");
        }
        return minutes;
    }

    /** Whether all people can pass in the minutes, each minute of a gate looked at alone. */
    private boolean canPass(int minutes) {
        int slots = 3 * minutes;
        int[][] passing = new int[4][slots];
        int[] room = new int[slots];
        for (int slot = 0; slot < slots; slot++) {
            room[slot] = s.gates[slot % 3];
        }
        for (int stage = 0; stage < 4; stage++) {
            for (int person = 0; person < s.crowds[stage]; person++) {
                if (!findRoom(stage, passing, room, new boolean[slots])) {
                    return false;
                }
            }
        }
        return true;
    }

    private boolean findRoom(int stage, int[][] passing, int[] room, boolean[] seen) {
        for (int slot = 0; slot < room.length; slot++) {
            int minute = slot / 3 + 1;
            if (seen[slot] || minute <= s.reach[slot % 3][stage] || s.gates[slot % 3] == 0) {
                continue;
            }
            seen[slot] = true;
            boolean isFree = room[slot] > 0;
            if (isFree) {
                room[slot]--;
            }
            for (int other = 0; other < 4 && !isFree; other++) {
                if (passing[other][slot] > 0 && findRoom(other, passing, room, seen)) {
                    passing[other][slot]--;
                    isFree = true;
                }
            }
            if (isFree) {
                passing[stage][slot]++;
                return true;
            }
        }
        return false;
    }

    public int cut() {
        int minutes = outBy();
        return minutes <= 0 ? 0 : firstTooMany(minutes - 1);
    }

    // ---- bars

    public int setServing(int minutes) {
        number(in(minutes, 1, 10));
        change();
        int was = s.serving;
        s.serving = minutes;
        return was;
    }

    private static int barOf(State t, int visitor) {
        for (int bar = 0; bar < 3; bar++) {
            if (t.lines.get(bar).contains(visitor)) {
                return bar;
            }
        }
        return -1;
    }

    public int join(int bar, int visitor) {
        index(in(bar, 0, 2) && in(visitor, 0, 11));
        state(barOf(s, visitor) < 0);
        change();
        s.lines.get(bar).add(visitor);
        s.joined.add(visitor);
        if (s.lines.get(bar).size() == 1) {
            s.left[bar] = s.serving;
        }
        return waitOf(visitor);
    }

    private static void takeOut(State t, int bar, int visitor) {
        boolean isFirst = t.lines.get(bar).get(0) == visitor;
        t.lines.get(bar).remove((Integer) visitor);
        t.joined.remove((Integer) visitor);
        if (isFirst) {
            t.left[bar] = t.serving;
        }
    }

    public int leave(int visitor) {
        index(in(visitor, 0, 11));
        int bar = barOf(s, visitor);
        state(bar >= 0);
        change();
        takeOut(s, bar, visitor);
        return bar;
    }

    private static int minutePasses(State t) {
        int count = 0;
        for (int bar = 0; bar < 3; bar++) {
            if (!t.lines.get(bar).isEmpty() && --t.left[bar] == 0) {
                takeOut(t, bar, t.lines.get(bar).get(0));
                count++;
            }
        }
        t.served += count;
        return count;
    }

    public int pass(int minutes) {
        number(in(minutes, 1, 60));
        change();
        int count = 0;
        for (int i = 0; i < minutes; i++) {
            count += minutePasses(s);
        }
        return count;
    }

    public int line(int bar) {
        index(in(bar, 0, 2));
        return s.lines.get(bar).size();
    }

    public int front(int bar, boolean isLeft) {
        index(in(bar, 0, 2));
        element(!s.lines.get(bar).isEmpty());
        return isLeft ? s.left[bar] : s.lines.get(bar).get(0);
    }

    public int waitOf(int visitor) {
        index(in(visitor, 0, 11));
        int bar = barOf(s, visitor);
        if (bar < 0) {
            return -1;
        }
        State later = s.copy();
        int minutes = 0;
        while (later.lines.get(bar).get(0) != visitor) {
            minutePasses(later);
            minutes++;
        }
        return minutes;
    }

    public int waits(boolean isOne) {
        int sum = 0;
        if (!isOne) {
            for (int visitor : s.joined) {
                sum += waitOf(visitor);
            }
            return sum;
        }
        List<Integer> waiting = new ArrayList<>(s.joined);
        int[] free = new int[3];
        for (int bar = 0; bar < 3; bar++) {
            if (!s.lines.get(bar).isEmpty()) {
                waiting.remove(s.lines.get(bar).get(0));
                free[bar] = s.left[bar];
            }
        }
        for (int minute = 0; !waiting.isEmpty(); minute++) {
            for (int bar = 0; bar < 3 && !waiting.isEmpty(); bar++) {
                if (free[bar] == minute) {
                    waiting.remove(0);
                    sum += minute;
                    free[bar] = minute + s.serving;
                }
            }
        }
        return sum;
    }

    public int served() {
        return s.served;
    }

    // ---- helpers, power

    public int setNeed(int hour, int many) {
        index(in(hour, 0, 23));
        number(in(many, 0, 9));
        change();
        int was = s.needs[hour];
        s.needs[hour] = many;
        return was;
    }

    public int setShift(int hours) {
        number(in(hours, 2, 10));
        change();
        int was = s.shift;
        s.shift = hours;
        return was;
    }

    public int helpers(int hour) {
        index(in(hour, -1, 23));
        int[] lacks = s.needs.clone();
        int[] starts = new int[24];
        for (int at = 0; at < 24; at++) {
            while (lacks[at] > 0) {
                int start = at + s.shift > 24 ? 24 - s.shift : at;
                starts[start]++;
                for (int i = 0; i < s.shift; i++) {
                    lacks[start + i]--;
                }
            }
        }
        return hour < 0 ? Arrays.stream(starts).sum() : starts[hour];
    }

    public int proof() {
        int[] best = {0, 0};
        tryHours(0, 0, 0, best);
        return best[0];
    }

    private void tryHours(int from, int set, int sum, int[] best) {
        if (sum > best[1] || sum == best[1] && isPreferred(set, best[0])) {
            best[0] = set;
            best[1] = sum;
        }
        for (int hour = from; hour < 24; hour++) {
            if (s.needs[hour] > 0) {
                tryHours(hour + s.shift, set | 1 << hour, sum + s.needs[hour], best);
            }
        }
    }

    public int setLoad(int hour, int behind, int power) {
        index(in(hour, 0, 23) && in(behind, 0, 23));
        number(hour <= behind && in(power, 0, 500));
        change();
        int was = s.loads[hour];
        Arrays.fill(s.loads, hour, behind + 1, power);
        return was;
    }

    public int setGenerator(int generator, int power, int start, int hour) {
        index(in(generator, 0, 3));
        number(in(power, 0, 200) && in(start, 0, 100) && in(hour, 0, 100));
        change();
        int was = s.generators[generator][0];
        s.generators[generator] = new int[] {power, start, hour};
        return was;
    }

    private int sumOf(int set, int what) {
        int sum = 0;
        for (int i = 0; i < 4; i++) {
            sum += (set >> i & 1) * s.generators[i][what];
        }
        return sum;
    }

    /** The best plan, from the hour 0 on: its cost, then its sets; null if there is none. */
    private int[] powerPlan() {
        int[][] plans = new int[16][];
        plans[0] = new int[25];
        for (int hour = 0; hour < 24; hour++) {
            int[][] next = new int[16][];
            for (int set = 0; set < 16; set++) {
                for (int before = 0; before < 16 && sumOf(set, 0) >= s.loads[hour]; before++) {
                    if (plans[before] == null) {
                        continue;
                    }
                    int[] plan = plans[before].clone();
                    plan[0] += sumOf(set, 2) + sumOf(set & ~before, 1);
                    plan[hour + 1] = set;
                    if (next[set] == null || Arrays.compare(plan, next[set]) < 0) {
                        next[set] = plan;
                    }
                }
            }
            plans = next;
        }
        int[] best = null;
        for (int[] plan : plans) {
            if (plan != null && (best == null || Arrays.compare(plan, best) < 0)) {
                best = plan;
            }
        }
        return best;
    }

    public int cost() {
        int[] plan = powerPlan();
        return plan == null ? -1 : plan[0];
    }

    public int isOn(int hour) {
        index(in(hour, 0, 23));
        int[] plan = powerPlan();
        element(plan != null);
        return plan[hour + 1];
    }

    // ---- rain

    public int rain(int from, int to) {
        number(in(from, 0, 5759));
        number(in(to, from + 1, 5760));
        List<Integer> met = new ArrayList<>();
        for (int act : s.acts.keySet()) {
            Act a = s.acts.get(act);
            boolean isOn = false;
            for (int minute = a.begin; minute < a.end(); minute++) {
                isOn |= in(minute, from, to - 1);
            }
            if (isOn && s.open[a.stage]) {
                met.add(act);
            }
        }
        state(met.size() <= 6);
        int[] goals = new int[met.size()];
        int[] best = null;
        int fewest = 7;
        int plans = 1;
        for (int i = 0; i < goals.length; i++) {
            plans *= 5;
        }
        for (int plan = 0; plan < plans; plan++) {
            int rest = plan;
            int leftOut = 0;
            for (int i = goals.length - 1; i >= 0; i--) {
                goals[i] = rest % 5;
                rest /= 5;
                leftOut += goals[i] == 4 ? 1 : 0;
            }
            if (leftOut < fewest && isDry(met, goals)) {
                fewest = leftOut;
                best = goals.clone();
            }
        }
        rainPlan = new TreeMap<>();
        for (int i = 0; i < best.length; i++) {
            rainPlan.put(met.get(i), best[i]);
        }
        return fewest;
    }

    private boolean isDry(List<Integer> met, int[] goals) {
        TreeMap<Integer, Act> later = new TreeMap<>(s.acts);
        for (int i = 0; i < goals.length; i++) {
            if (goals[i] == 4) {
                later.remove(met.get(i));
            } else if (s.open[goals[i]]) {
                return false;
            } else {
                Act a = s.acts.get(met.get(i));
                later.put(met.get(i), new Act(goals[i], a.begin, a.length, a.check, a.members));
            }
        }
        for (int act : later.keySet()) {
            for (int other : later.keySet()) {
                if (act != other && met.contains(act)
                        && later.get(act).stage == later.get(other).stage
                        && later.get(act).meets(later.get(other))) {
                    return false;
                }
            }
        }
        return true;
    }

    public int movedTo(int act) {
        index(s.acts.containsKey(act));
        return rainPlan == null ? -1 : rainPlan.getOrDefault(act, -1);
    }

    public int moveAll() {
        state(rainPlan != null);
        TreeMap<Integer, Integer> plan = rainPlan;
        change();
        int moved = 0;
        for (int act : plan.keySet()) {
            if (plan.get(act) == 4) {
                remove(act);
            } else {
                s.acts.get(act).stage = plan.get(act);
                moved++;
            }
        }
        return moved;
    }

    // ---- tickets, pay, things

    public int setPrice(int day, int coins) {
        index(in(day, 0, 3));
        number(in(coins, 0, 500));
        change();
        int was = s.prices[day];
        s.prices[day] = coins;
        return was;
    }

    public int ticket(int visitor, int day, int age) {
        index(in(visitor, 0, 11) && in(day, 0, 3));
        number(in(age, 0, 120));
        state(!s.tickets.containsKey(visitor * 4 + day));
        change();
        String share = age < 6 ? "0" : age < 14 ? "0.5" : age < 65 ? "1" : "0.8";
        int coins = new BigDecimal(s.prices[day]).multiply(new BigDecimal(share))
                .setScale(0, RoundingMode.HALF_UP).intValueExact();
        s.tickets.put(visitor * 4 + day, coins);
        s.visitors[visitor] -= coins;
        s.house += coins;
        return coins;
    }

    public int refund(int visitor, int day) {
        index(in(visitor, 0, 11) && in(day, 0, 3));
        element(s.tickets.containsKey(visitor * 4 + day));
        change();
        int coins = s.tickets.remove(visitor * 4 + day);
        int back = new BigDecimal(coins).multiply(new BigDecimal("0.9"))
                .setScale(0, RoundingMode.FLOOR).intValueExact();
        s.visitors[visitor] += back;
        s.house -= back;
        return back;
    }

    public int resell(int visitor, int other, int day) {
        index(in(visitor, 0, 11) && in(other, 0, 11) && in(day, 0, 3));
        element(s.tickets.containsKey(visitor * 4 + day));
        state(!s.tickets.containsKey(other * 4 + day));
        change();
        int coins = s.tickets.remove(visitor * 4 + day);
        s.tickets.put(other * 4 + day, coins);
        s.visitors[visitor] += coins;
        s.visitors[other] -= coins;
        return coins;
    }

    public int payBands() {
        change();
        List<Integer> members = new ArrayList<>();
        int set = lineup();
        for (int act : s.acts.keySet()) {
            for (int musician = 0; musician < 12 && (set >> act & 1) != 0; musician++) {
                if ((s.acts.get(act).members >> musician & 1) != 0) {
                    members.add(musician);
                }
            }
        }
        if (s.house <= 0 || members.isEmpty()) {
            return 0;
        }
        long each = s.house / members.size();
        for (int musician : members) {
            s.musicians[musician] += each;
            s.house -= each;
        }
        return (int) each;
    }

    public int lose(int thing, int stage) {
        index(in(stage, 0, 3));
        number(in(thing, 0, 99));
        change();
        s.lost.put(thing, stage);
        return s.lost.size();
    }

    public int find(int stage) {
        index(in(stage, -1, 3));
        int found = -1;
        for (int thing : s.lost.descendingKeySet()) {
            if (stage == -1 || s.lost.get(thing) == stage) {
                found = thing;
            }
        }
        element(found >= 0);
        change();
        s.lost.remove(found);
        return found;
    }

    public int undo() {
        state(!past.isEmpty());
        s = past.pop();
        rainPlan = null;
        lineup = -1;
        return past.size();
    }

    public int ticketAt(int visitor, int day) {
        index(in(visitor, 0, 11) && in(day, 0, 3));
        return s.tickets.getOrDefault(visitor * 4 + day, -1);
    }

    public long balance(int kind, int number) {
        number(in(kind, 0, 2) && (kind != 0 || number == 0));
        index(in(number, 0, 11));
        return kind == 0 ? s.house : kind == 1 ? s.visitors[number] : s.musicians[number];
    }

    public int lost() {
        return s.lost.size();
    }

    public float lineupShare() {
        return s.acts.isEmpty() ? 0.0f : (float) Integer.bitCount(lineup()) / s.acts.size();
    }

    public long checksum() {
        long sum = 7;
        for (Act a : s.acts.values()) {
            sum = sum * 31 + a.begin + 10000 * a.stage;
        }
        for (long visitor : s.visitors) {
            sum = sum * 31 + visitor;
        }
        return sum;
    }

    /** The document says that it is always 0. */
    public int errors() {
        return 0;
    }
}
