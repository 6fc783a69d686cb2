import java.util.NoSuchElementException;

/** A festival of some days; ../shared/DOC.md tells what each call promises. */
public final class Festivalgrounds {
    public static final int NONE = -1;

    private static final int DAYS = 4;
    private static final int DAY_MINUTES = 1440;
    private static final int MINUTES = DAYS * DAY_MINUTES;
    private static final int STAGES = 4;
    private static final int ACTS = 16;
    private static final int MUSICIANS = 12;
    private static final int VISITORS = 12;
    private static final int MOST_WEIGHT = 9;
    private static final int GATES = 3;
    private static final int BARS = 3;
    private static final int HOURS = 24;
    private static final int GENERATORS = 4;
    private static final int THINGS = 100;
    private static final int UNDOABLE = 8;

    private final Moment now = new Moment();
    private final Moment[] past = new Moment[UNDOABLE];
    private final Evenings evenings = new Evenings(now.grounds, now.program);
    private final RainPlan rainPlan = new RainPlan(now.grounds, now.program);
    private int nextSave = 0;
    private int undoable = 0;

    public Festivalgrounds() {
        for (int i = 0; i < UNDOABLE; i++) {
            past[i] = new Moment();
        }
    }

    // ---- Changes: time, stages, acts, wishes

    public int setDate(int year, int month, int day) throws IllegalArgumentException {
        if (!Calendar.isDate(year, month, day)) {
            throw new IllegalArgumentException("there is no such date");
        }
        beginChange();
        now.calendar.startOn(year, month, day);
        return now.calendar.weekdayOf(0);
    }

    public boolean setOpen(int stage, boolean isOpen) throws IndexOutOfBoundsException {
        needPlace(stage, STAGES);
        beginChange();
        return now.grounds.uncover(stage, isOpen);
    }

    public int setWay(int stage, int other, int minutes)
            throws IndexOutOfBoundsException, IllegalArgumentException {
        needPlace(stage, STAGES);
        needPlace(other, STAGES);
        needOthers(stage, other);
        needRange(minutes, 1, 60);
        beginChange();
        now.grounds.layWay(stage, other, minutes);
        return now.grounds.minutesBetween(stage, other);
    }

    public int act(int stage, int begin, int length, int check, int members)
            throws IndexOutOfBoundsException, IllegalArgumentException, IllegalStateException {
        needPlace(stage, STAGES);
        needRange(begin, 0, MINUTES - 1);
        needRange(length, 10, 240);
        needRange(check, 0, 60);
        needRange(members, 1, (1 << MUSICIANS) - 1);
        needRange(begin - check, 0, MINUTES);
        needRange(begin + length, 0, MINUTES);
        int number = now.program.freeNumber();
        if (number == NONE) {
            throw new IllegalStateException("there are 16 acts");
        }
        beginChange();
        now.program.add(number, stage, begin, length, check, members);
        return number;
    }

    public int drop(int act) throws IndexOutOfBoundsException {
        needAct(act);
        beginChange();
        int pleasing = now.program.pleasing(act);
        now.program.remove(act);
        return pleasing;
    }

    public int wish(int visitor, int act, int weight)
            throws IndexOutOfBoundsException, IllegalArgumentException {
        needPlace(visitor, VISITORS);
        needAct(act);
        needRange(weight, 0, MOST_WEIGHT);
        beginChange();
        return replace(now.program.wishes, visitor * ACTS + act, weight);
    }

    // ---- Changes: gates, bars

    public int setGate(int gate, int people)
            throws IndexOutOfBoundsException, IllegalArgumentException {
        needPlace(gate, GATES);
        needRange(people, 0, 50);
        beginChange();
        return replace(now.exits.gates, gate, people);
    }

    public int setReach(int gate, int stage, int minutes)
            throws IndexOutOfBoundsException, IllegalArgumentException {
        needPlace(gate, GATES);
        needPlace(stage, STAGES);
        needRange(minutes, 1, 30);
        beginChange();
        return replace(now.exits.reaches, gate * STAGES + stage, minutes);
    }

    public int setCrowd(int stage, int people)
            throws IndexOutOfBoundsException, IllegalArgumentException {
        needPlace(stage, STAGES);
        needRange(people, 0, 2000);
        beginChange();
        return replace(now.exits.crowds, stage, people);
    }

    public int setServing(int minutes) throws IllegalArgumentException {
        needRange(minutes, 1, 10);
        beginChange();
        int before = now.bars.serving;
        now.bars.serving = minutes;
        return before;
    }

    public int join(int bar, int visitor)
            throws IndexOutOfBoundsException, IllegalStateException {
        needPlace(bar, BARS);
        needPlace(visitor, VISITORS);
        if (now.bars.barOf(visitor) != NONE) {
            throw new IllegalStateException("the visitor is in a line");
        }
        beginChange();
        now.bars.enter(bar, visitor);
        return now.bars.minutesTill(visitor);
    }

    public int leave(int visitor) throws IndexOutOfBoundsException, IllegalStateException {
        needPlace(visitor, VISITORS);
        int bar = now.bars.barOf(visitor);
        if (bar == NONE) {
            throw new IllegalStateException("the visitor is in no line");
        }
        beginChange();
        now.bars.takeOut(visitor);
        return bar;
    }

    public int pass(int minutes) throws IllegalArgumentException {
        needRange(minutes, 1, 60);
        beginChange();
        int before = now.bars.servings;
        for (int i = 0; i < minutes; i++) {
            now.bars.passMinute();
        }
        return now.bars.servings - before;
    }

    // ---- Changes: helpers, power, rain

    public int setNeed(int hour, int many)
            throws IndexOutOfBoundsException, IllegalArgumentException {
        needPlace(hour, HOURS);
        needRange(many, 0, 9);
        beginChange();
        return replace(now.shifts.needs, hour, many);
    }

    public int setShift(int hours) throws IllegalArgumentException {
        needRange(hours, 2, 10);
        beginChange();
        int before = now.shifts.length;
        now.shifts.length = hours;
        return before;
    }

    public int setLoad(int hour, int behind, int power)
            throws IndexOutOfBoundsException, IllegalArgumentException {
        needPlace(hour, HOURS);
        needPlace(behind, HOURS);
        needRange(behind, hour, HOURS - 1);
        needRange(power, 0, 500);
        beginChange();
        int before = now.power.loads[hour];
        for (int i = hour; i <= behind; i++) {
            now.power.loads[i] = power;
        }
        return before;
    }

    public int setGenerator(int generator, int power, int start, int hour)
            throws IndexOutOfBoundsException, IllegalArgumentException {
        needPlace(generator, GENERATORS);
        needRange(power, 0, 200);
        needRange(start, 0, 100);
        needRange(hour, 0, 100);
        beginChange();
        replace(now.power.starts, generator, start);
        replace(now.power.hourly, generator, hour);
        return replace(now.power.powers, generator, power);
    }

    public int moveAll() throws IllegalStateException {
        if (!rainPlan.isKept) {
            throw new IllegalStateException("no rain plan is kept");
        }
        saveMoment();
        int moved = rainPlan.carryOut();
        rainPlan.forget();
        return moved;
    }

    // ---- Changes: tickets, pay, things

    public int setPrice(int day, int coins)
            throws IndexOutOfBoundsException, IllegalArgumentException {
        needPlace(day, DAYS);
        needRange(coins, 0, 500);
        beginChange();
        return replace(now.purse.prices, day, coins);
    }

    public int ticket(int visitor, int day, int age)
            throws IndexOutOfBoundsException, IllegalArgumentException, IllegalStateException {
        needPlace(visitor, VISITORS);
        needPlace(day, DAYS);
        needRange(age, 0, 120);
        needNoTicket(visitor, day);
        beginChange();
        return now.purse.sell(visitor, day, age);
    }

    public int refund(int visitor, int day)
            throws IndexOutOfBoundsException, NoSuchElementException {
        needPlace(visitor, VISITORS);
        needPlace(day, DAYS);
        needTicket(visitor, day);
        beginChange();
        return now.purse.takeBack(visitor, day);
    }

    public int resell(int visitor, int other, int day)
            throws IndexOutOfBoundsException, NoSuchElementException, IllegalStateException {
        needPlace(visitor, VISITORS);
        needPlace(other, VISITORS);
        needPlace(day, DAYS);
        needTicket(visitor, day);
        needNoTicket(other, day);
        beginChange();
        return now.purse.handOver(visitor, other, day);
    }

    public int payBands() {
        beginChange();
        return now.purse.payMembers(now.program, now.program.lineup());
    }

    public int lose(int thing, int stage)
            throws IndexOutOfBoundsException, IllegalArgumentException {
        needPlace(stage, STAGES);
        needRange(thing, 0, THINGS - 1);
        beginChange();
        replace(now.grounds.lostAt, thing, stage);
        return now.grounds.countLost();
    }

    public int find(int stage) throws IndexOutOfBoundsException, NoSuchElementException {
        if (stage != NONE) {
            needPlace(stage, STAGES);
        }
        int thing = now.grounds.firstLost(stage);
        if (thing == NONE) {
            throw new NoSuchElementException("no such thing is lost");
        }
        beginChange();
        replace(now.grounds.lostAt, thing, NONE);
        return thing;
    }

    public int undo() throws IllegalStateException {
        if (undoable == 0) {
            throw new IllegalStateException("no change can be undone");
        }
        nextSave = Math.floorMod(nextSave - 1, UNDOABLE);
        now.copyFrom(past[nextSave]);
        undoable--;
        rainPlan.forget();
        return undoable;
    }

    // ---- time, stages, acts

    public int dateAt(int minute, int what) throws IllegalArgumentException {
        needRange(minute, 0, MINUTES - 1);
        needRange(what, 0, 5);
        if (what == 4) {
            return minute % DAY_MINUTES / 60;
        }
        if (what == 5) {
            return minute % 60;
        }
        return now.calendar.partOf(minute / DAY_MINUTES, what);
    }

    public int walk(int stage, int other) throws IndexOutOfBoundsException {
        needPlace(stage, STAGES);
        needPlace(other, STAGES);
        return now.grounds.minutesBetween(stage, other);
    }

    public int actAt(int act, int what)
            throws IndexOutOfBoundsException, IllegalArgumentException {
        needAct(act);
        needRange(what, 0, 6);
        if (what == 6) {
            return now.program.lineup() >> act & 1;
        }
        return now.program.partOf(act, what);
    }

    public int acts() {
        return Integer.bitCount(now.program.numbers());
    }

    public int firstIn(int stage, int from, int to)
            throws IndexOutOfBoundsException, IllegalArgumentException {
        needPlace(stage, STAGES);
        if (from > to) {
            throw new IllegalArgumentException("from is greater than to");
        }
        return now.program.earliest(stage, from, to);
    }

    public boolean clash(int act, int other)
            throws IndexOutOfBoundsException, IllegalArgumentException {
        needAct(act);
        needAct(other);
        needOthers(act, other);
        return now.program.areFoes(act, other);
    }

    public int clashes() {
        return now.program.countFoes();
    }

    public int pleased(boolean isBound) {
        if (isBound) {
            return now.program.bound();
        }
        return now.program.pleasingOfAll(now.program.lineup());
    }

    // ---- evenings

    public int evening(int visitor, int day) throws IndexOutOfBoundsException {
        needPlace(visitor, VISITORS);
        needPlace(day, DAYS);
        evenings.planFor(visitor);
        return evenings.weightOn(day);
    }

    public int eveningAct(int visitor, int day, int place)
            throws IndexOutOfBoundsException, NoSuchElementException {
        needPlace(visitor, VISITORS);
        needPlace(day, DAYS);
        evenings.planFor(visitor);
        int act = evenings.actOn(day, place);
        if (act == NONE) {
            throw new NoSuchElementException("the evening has no such place");
        }
        return act;
    }

    public int price(int visitor, int act) throws IndexOutOfBoundsException {
        needPlace(visitor, VISITORS);
        needAct(act);
        evenings.planFor(visitor);
        return evenings.priceOf(act);
    }

    public int listeners(int stage, int minute)
            throws IndexOutOfBoundsException, IllegalArgumentException {
        needPlace(stage, STAGES);
        needRange(minute, 0, MINUTES - 1);
        int count = 0;
        for (int visitor = 0; visitor < VISITORS; visitor++) {
            evenings.planFor(visitor);
            if (evenings.isAt(stage, minute)) {
                count++;
            }
        }
        return count;
    }

    // ---- ways out

    public int outBy() {
        return now.exits.minutesOut();
    }

    public int cut() {
        int minutes = now.exits.minutesOut();
        return minutes <= 0 ? 0 : now.exits.firstTooFull(minutes - 1);
    }

    // ---- bars

    public int line(int bar) throws IndexOutOfBoundsException {
        needPlace(bar, BARS);
        return now.bars.lengthOf(bar);
    }

    public int front(int bar, boolean isLeft)
            throws IndexOutOfBoundsException, NoSuchElementException {
        needPlace(bar, BARS);
        int visitor = now.bars.firstOf(bar);
        if (visitor == NONE) {
            throw new NoSuchElementException("the line is empty");
        }
        return isLeft ? now.bars.left[bar] : visitor;
    }

    public int waitOf(int visitor) throws IndexOutOfBoundsException {
        needPlace(visitor, VISITORS);
        return now.bars.minutesTill(visitor);
    }

    public int waits(boolean isOne) {
        return isOne ? now.bars.sumInOneLine() : now.bars.sumInLines();
    }

    public int served() {
        return now.bars.servings;
    }

    // ---- helpers, power, rain

    public int helpers(int hour) throws IndexOutOfBoundsException {
        if (hour != NONE) {
            needPlace(hour, HOURS);
        }
        now.shifts.planStarts();
        return hour == NONE ? now.shifts.sumOfStarts() : now.shifts.starts[hour];
    }

    public int proof() {
        return now.shifts.neediestHours();
    }

    public int cost() {
        now.power.planCosts();
        return now.power.leastCost();
    }

    public int isOn(int hour) throws IndexOutOfBoundsException, NoSuchElementException {
        needPlace(hour, HOURS);
        now.power.planCosts();
        if (now.power.leastCost() == NONE) {
            throw new NoSuchElementException("there is no plan of power");
        }
        return now.power.setAt(hour);
    }

    public int rain(int from, int to) throws IllegalArgumentException, IllegalStateException {
        needRange(from, 0, MINUTES - 1);
        needRange(to, from + 1, MINUTES);
        if (rainPlan.countMet(from, to) > RainPlan.MOST_MET) {
            throw new IllegalStateException("the rain meets more than 6 acts");
        }
        return rainPlan.make(from, to);
    }

    public int movedTo(int act) throws IndexOutOfBoundsException {
        needAct(act);
        return rainPlan.isKept ? rainPlan.goals[act] : NONE;
    }

    // ---- tickets, pay, things, measures

    public int ticketAt(int visitor, int day) throws IndexOutOfBoundsException {
        needPlace(visitor, VISITORS);
        needPlace(day, DAYS);
        return now.purse.paid[visitor * DAYS + day];
    }

    public long balance(int kind, int number)
            throws IllegalArgumentException, IndexOutOfBoundsException {
        needRange(kind, 0, 2);
        if (kind == 0) {
            needRange(number, 0, 0);
            return now.purse.house;
        }
        if (kind == 1) {
            needPlace(number, VISITORS);
            return now.purse.visitors[number];
        }
        needPlace(number, MUSICIANS);
        return now.purse.musicians[number];
    }

    public int lost() {
        return now.grounds.countLost();
    }

    public double meanEvening(int day) throws IndexOutOfBoundsException {
        needPlace(day, DAYS);
        int sum = 0;
        for (int visitor = 0; visitor < VISITORS; visitor++) {
            evenings.planFor(visitor);
            sum += evenings.weightOn(day);
        }
        return (double) sum / 12.0;
    }

    public float lineupShare() {
        int all = Integer.bitCount(now.program.numbers());
        if (all == 0) {
            return 0.0f;
        }
        return (float) Integer.bitCount(now.program.lineup()) / (float) all;
    }

    public long checksum() {
        long sum = now.program.sumUp(7L);
        for (int visitor = 0; visitor < VISITORS; visitor++) {
            sum = 31L * sum + now.purse.visitors[visitor];
        }
        return sum;
    }

    public int errors() {
        int count = 0;
        count += holds(now.program.pleasingOfAll(now.program.lineup()) <= now.program.bound());
        count += holds(areEveningsRight());
        count += holds(isOutInTime());
        count += holds(now.bars.sumInOneLine() <= now.bars.sumInLines());
        count += holds(isProofRight());
        count += holds(now.purse.sumOfAll() == 0L);
        return count;
    }

    // ---- what the calls have in common

    private static int holds(boolean isRight) {
        return isRight ? 0 : 1;
    }

    private boolean areEveningsRight() {
        for (int visitor = 0; visitor < VISITORS; visitor++) {
            evenings.planFor(visitor);
            for (int day = 0; day < DAYS; day++) {
                if (evenings.weightOn(day) != evenings.greatestPrice(day)) {
                    return false;
                }
            }
        }
        return true;
    }

    private boolean isOutInTime() {
        int minutes = now.exits.minutesOut();
        return minutes == NONE || now.exits.firstTooFull(minutes) == 0;
    }

    private boolean isProofRight() {
        now.shifts.planStarts();
        return now.shifts.sumOfStarts() == now.shifts.needOf(now.shifts.neediestHours());
    }

    private void beginChange() {
        saveMoment();
        rainPlan.forget();
    }

    private void saveMoment() {
        past[nextSave].copyFrom(now);
        nextSave = (nextSave + 1) % UNDOABLE;
        undoable = Math.min(undoable + 1, UNDOABLE);
    }

    private static void needPlace(int number, int count) {
        if (number < 0 || number >= count) {
            throw new IndexOutOfBoundsException("there is no such number");
        }
    }

    private static void needRange(int number, int least, int most) {
        if (number < least || number > most) {
            throw new IllegalArgumentException("a number is out of range");
        }
    }

    private static void needOthers(int number, int other) {
        if (number == other) {
            throw new IllegalArgumentException("both are the same");
        }
    }

    private void needAct(int act) {
        if (!now.program.has(act)) {
            throw new IndexOutOfBoundsException("there is no such act");
        }
    }

    private void needTicket(int visitor, int day) {
        if (!now.purse.hasTicket(visitor, day)) {
            throw new NoSuchElementException("the visitor has no ticket for this day");
        }
    }

    private void needNoTicket(int visitor, int day) {
        if (now.purse.hasTicket(visitor, day)) {
            throw new IllegalStateException("the visitor has a ticket for this day");
        }
    }

    private static int replace(int[] row, int place, int value) {
        if (place < 0 || place >= row.length) {
            return NONE;
        }
        int before = row[place];
        row[place] = value;
        return before;
    }

    private static void copyRow(int[] from, int[] to) {
        System.arraycopy(from, 0, to, 0, Math.min(from.length, to.length));
    }

    private static void copyRow(long[] from, long[] to) {
        System.arraycopy(from, 0, to, 0, Math.min(from.length, to.length));
    }

    private static void fillRow(int[] row, int value) {
        for (int i = 0; i < row.length; i++) {
            row[i] = value;
        }
    }

    private static int sumOf(int[] row) {
        int sum = 0;
        for (int i = 0; i < row.length; i++) {
            sum += row[i];
        }
        return sum;
    }

    /** All that undo() brings back; rows that only help to reckon are left out of the copies. */
    private static final class Moment {
        final Calendar calendar = new Calendar();
        final Grounds grounds = new Grounds();
        final Program program = new Program();
        final Exits exits = new Exits();
        final Bars bars = new Bars();
        final Shifts shifts = new Shifts();
        final Power power = new Power();
        final Purse purse = new Purse();

        void copyFrom(Moment other) {
            calendar.copyFrom(other.calendar);
            grounds.copyFrom(other.grounds);
            program.copyFrom(other.program);
            exits.copyFrom(other.exits);
            bars.copyFrom(other.bars);
            shifts.copyFrom(other.shifts);
            power.copyFrom(other.power);
            purse.copyFrom(other.purse);
        }
    }

    /** The date of the day 0, in the Gregorian calendar also for the years ahead of it. */
    private static final class Calendar {
        private int firstYear = 2026;
        private int firstMonth = 6;
        private int firstDay = 1;

        void copyFrom(Calendar other) {
            startOn(other.firstYear, other.firstMonth, other.firstDay);
        }

        void startOn(int year, int month, int day) {
            firstYear = year;
            firstMonth = month;
            firstDay = day;
        }

        static boolean isDate(int year, int month, int day) {
            return year >= 1 && year <= 9990 && month >= 1 && month <= 12
                    && day >= 1 && day <= daysIn(year, month);
        }

        private static boolean isLeap(int year) {
            return year % 4 == 0 && (year % 100 != 0 || year % 400 == 0);
        }

        private static int daysIn(int year, int month) {
            if (month == 2) {
                return isLeap(year) ? 29 : 28;
            }
            return month == 4 || month == 6 || month == 9 || month == 11 ? 30 : 31;
        }

        /** What is 0 for the year, 1 the month, 2 the day of the month, 3 the weekday. */
        int partOf(int day, int what) {
            if (what == 3) {
                return weekdayOf(day);
            }
            int monthDays = daysIn(firstYear, firstMonth);
            // The festival is shorter than any month, so it reaches the next month at most.
            boolean isNextMonth = firstDay + day > monthDays;
            boolean isNextYear = isNextMonth && firstMonth == 12;
            if (what == 0) {
                return isNextYear ? firstYear + 1 : firstYear;
            }
            if (what == 1) {
                return isNextYear ? 1 : isNextMonth ? firstMonth + 1 : firstMonth;
            }
            return isNextMonth ? firstDay + day - monthDays : firstDay + day;
        }

        /** The 1st of January of the year 1 was a Monday. */
        int weekdayOf(int day) {
            int years = firstYear - 1;
            int behind = 365 * years + years / 4 - years / 100 + years / 400;
            for (int month = 1; month < firstMonth; month++) {
                behind += daysIn(firstYear, month);
            }
            return (behind + firstDay - 1 + day) % 7 + 1;
        }
    }

    /** The stages, the ways between them, and where things were lost. */
    private static final class Grounds {
        private final boolean[] isOpen = new boolean[STAGES];
        private final int[] ways = new int[STAGES * STAGES];
        private final int[] walks = new int[STAGES * STAGES];
        final int[] lostAt = new int[THINGS];

        Grounds() {
            for (int place = 0; place < ways.length && place < walks.length; place++) {
                ways[place] = place / STAGES == place % STAGES ? 0 : 10;
                // All ways are the same at first, so none is shorter by another stage.
                walks[place] = ways[place];
            }
            fillRow(lostAt, NONE);
        }

        void copyFrom(Grounds other) {
            for (int stage = 0; stage < STAGES; stage++) {
                isOpen[stage] = other.isOpen[stage];
            }
            copyRow(other.ways, ways);
            copyRow(other.walks, walks);
            copyRow(other.lostAt, lostAt);
        }

        boolean isInOpenAir(int stage) {
            return stage >= 0 && stage < STAGES && isOpen[stage];
        }

        boolean uncover(int stage, boolean isNowOpen) {
            boolean before = isInOpenAir(stage);
            if (stage >= 0 && stage < STAGES) {
                isOpen[stage] = isNowOpen;
            }
            return before;
        }

        void layWay(int stage, int other, int minutes) {
            replace(ways, stage * STAGES + other, minutes);
            replace(ways, other * STAGES + stage, minutes);
            measureWalks();
        }

        int minutesBetween(int stage, int other) {
            int place = stage * STAGES + other;
            return place < 0 || place >= walks.length ? 0 : walks[place];
        }

        private void measureWalks() {
            copyRow(ways, walks);
            for (int by = 0; by < STAGES; by++) {
                for (int from = 0; from < STAGES; from++) {
                    for (int to = 0; to < STAGES; to++) {
                        int round = walks[from * STAGES + by] + walks[by * STAGES + to];
                        int place = from * STAGES + to;
                        walks[place] = Math.min(walks[place], round);
                    }
                }
            }
        }

        int countLost() {
            int count = 0;
            for (int thing = 0; thing < THINGS; thing++) {
                if (lostAt[thing] != NONE) {
                    count++;
                }
            }
            return count;
        }

        int firstLost(int stage) {
            for (int thing = 0; thing < THINGS; thing++) {
                if (lostAt[thing] != NONE && (stage == NONE || lostAt[thing] == stage)) {
                    return thing;
                }
            }
            return NONE;
        }
    }

    /** The acts and the wishes for them. */
    private static final class Program {
        private final int[] stages = new int[ACTS];
        private final int[] begins = new int[ACTS];
        private final int[] lengths = new int[ACTS];
        private final int[] checks = new int[ACTS];
        /** 0 where there is no act, since each act has a member. */
        private final int[] members = new int[ACTS];
        final int[] wishes = new int[VISITORS * ACTS];
        private final int[] foes = new int[ACTS];
        private final int[] pleasings = new int[ACTS];

        void copyFrom(Program other) {
            copyRow(other.stages, stages);
            copyRow(other.begins, begins);
            copyRow(other.lengths, lengths);
            copyRow(other.checks, checks);
            copyRow(other.members, members);
            copyRow(other.wishes, wishes);
        }

        boolean has(int act) {
            return act >= 0 && act < ACTS && members[act] != 0;
        }

        int freeNumber() {
            for (int act = 0; act < ACTS; act++) {
                if (!has(act)) {
                    return act;
                }
            }
            return NONE;
        }

        void add(int act, int stage, int begin, int length, int check, int membersOfAct) {
            replace(stages, act, stage);
            replace(begins, act, begin);
            replace(lengths, act, length);
            replace(checks, act, check);
            replace(members, act, membersOfAct);
        }

        void remove(int act) {
            replace(members, act, 0);
            for (int visitor = 0; visitor < VISITORS; visitor++) {
                replace(wishes, visitor * ACTS + act, 0);
            }
        }

        void shiftTo(int act, int stage) {
            replace(stages, act, stage);
        }

        int stageOf(int act) {
            return has(act) ? stages[act] : NONE;
        }

        int beginOf(int act) {
            return has(act) ? begins[act] : NONE;
        }

        int endOf(int act) {
            return has(act) ? begins[act] + lengths[act] : NONE;
        }

        int dayOf(int act) {
            return has(act) ? begins[act] / DAY_MINUTES : NONE;
        }

        int membersOf(int act) {
            return has(act) ? members[act] : 0;
        }

        int wishOf(int visitor, int act) {
            int place = visitor * ACTS + act;
            return place < 0 || place >= wishes.length || !has(act) ? 0 : wishes[place];
        }

        int pleasing(int act) {
            int sum = 0;
            for (int visitor = 0; visitor < VISITORS; visitor++) {
                sum += wishOf(visitor, act);
            }
            return sum;
        }

        int pleasingOfAll(int set) {
            int sum = 0;
            for (int act = 0; act < ACTS; act++) {
                if ((set >> act & 1) != 0) {
                    sum += pleasing(act);
                }
            }
            return sum;
        }

        int partOf(int act, int what) {
            if (!has(act)) {
                return NONE;
            }
            switch (what) {
                case 0:
                    return stages[act];
                case 1:
                    return begins[act];
                case 2:
                    return lengths[act];
                case 3:
                    return checks[act];
                case 4:
                    return members[act];
                default:
                    return pleasing(act);
            }
        }

        /** The set of all acts, as bits. */
        int numbers() {
            int set = 0;
            for (int act = 0; act < ACTS; act++) {
                if (has(act)) {
                    set |= 1 << act;
                }
            }
            return set;
        }

        private int numbersOn(int stage) {
            int set = 0;
            for (int act = 0; act < ACTS; act++) {
                if (stageOf(act) == stage) {
                    set |= 1 << act;
                }
            }
            return set;
        }

        int earliest(int stage, int from, int to) {
            int first = NONE;
            for (int act = 0; act < ACTS; act++) {
                if (stageOf(act) == stage && begins[act] >= from && begins[act] < to
                        && (first == NONE || begins[act] < beginOf(first))) {
                    first = act;
                }
            }
            return first;
        }

        /** The act outside a set of acts that begins last; NONE if all are in the set. */
        int latestOutside(int set) {
            int latest = NONE;
            for (int act = 0; act < ACTS; act++) {
                if (has(act) && (set >> act & 1) == 0 && begins[act] > beginOf(latest)) {
                    latest = act;
                }
            }
            return latest;
        }

        boolean isOnIn(int act, int from, int to) {
            return has(act) && begins[act] < to && endOf(act) > from;
        }

        boolean doPiecesMeet(int act, int other) {
            return has(act) && has(other)
                    && begins[act] - checks[act] < endOf(other)
                    && begins[other] - checks[other] < endOf(act);
        }

        boolean areFoes(int act, int other) {
            return doPiecesMeet(act, other)
                    && (stages[act] == stages[other] || (members[act] & members[other]) != 0);
        }

        int countFoes() {
            int count = 0;
            for (int act = 0; act < ACTS; act++) {
                for (int other = act + 1; other < ACTS; other++) {
                    if (areFoes(act, other)) {
                        count++;
                    }
                }
            }
            return count;
        }

        /** The best lineup, as bits. */
        int lineup() {
            lookAtAll();
            return bestAmong(foes, pleasings, numbers(), 0) & (1 << ACTS) - 1;
        }

        int bound() {
            lookAtAll();
            int sum = 0;
            for (int stage = 0; stage < STAGES; stage++) {
                // On one stage the acts that clash are just those whose pieces meet.
                sum += bestAmong(foes, pleasings, numbersOn(stage), 0) >> ACTS;
            }
            return sum;
        }

        private void lookAtAll() {
            for (int act = 0; act < ACTS; act++) {
                pleasings[act] = pleasing(act);
                foes[act] = 0;
                for (int other = 0; other < ACTS; other++) {
                    if (other != act && areFoes(act, other)) {
                        foes[act] |= 1 << other;
                    }
                }
            }
        }

        /**
         * The best set among the acts that are left, from an act on, in the low 16 bits,
         * and how much it pleases above them.
         */
        private static int bestAmong(int[] foes, int[] pleasings, int left, int act) {
            if (act < 0 || act >= foes.length || act >= pleasings.length) {
                return 0;
            }
            if ((left >> act & 1) == 0) {
                return bestAmong(foes, pleasings, left, act + 1);
            }
            int own = (pleasings[act] << ACTS) + (1 << act);
            int with = own + bestAmong(foes, pleasings, left & ~foes[act], act + 1);
            if ((left & foes[act]) == 0) {
                return with;
            }
            int without = bestAmong(foes, pleasings, left & ~(1 << act), act + 1);
            return with >> ACTS >= without >> ACTS ? with : without;
        }

        long sumUp(long start) {
            long sum = start;
            for (int act = 0; act < ACTS; act++) {
                if (has(act)) {
                    sum = 31L * sum + begins[act] + 10000L * stages[act];
                }
            }
            return sum;
        }
    }

    /** The evenings of one visitor: first planFor(), then what is asked. */
    private static final class Evenings {
        private final Grounds grounds;
        private final Program program;
        private final int[] prices = new int[ACTS];
        private int visitor = 0;

        Evenings(Grounds grounds, Program program) {
            this.grounds = grounds;
            this.program = program;
        }

        void planFor(int whom) {
            visitor = whom;
            fillRow(prices, 0);
            int done = 0;
            for (int i = 0; i < ACTS; i++) {
                int act = program.latestOutside(done);
                if (act == NONE) {
                    return;
                }
                int wish = program.wishOf(visitor, act);
                // What can be reached behind an act begins later, so its price is known.
                replace(prices, act, wish == 0 ? 0 : wish + dearestBehind(act));
                done |= 1 << act;
            }
        }

        private boolean isReached(int act, int before) {
            return program.dayOf(act) == program.dayOf(before)
                    && program.beginOf(act) >= program.endOf(before)
                    + grounds.minutesBetween(program.stageOf(before), program.stageOf(act));
        }

        private int dearestBehind(int before) {
            int dearest = 0;
            for (int act = 0; act < ACTS; act++) {
                if (prices[act] > dearest && isReached(act, before)) {
                    dearest = prices[act];
                }
            }
            return dearest;
        }

        int priceOf(int act) {
            return act < 0 || act >= ACTS ? 0 : prices[act];
        }

        int greatestPrice(int day) {
            int greatest = 0;
            for (int act = 0; act < ACTS; act++) {
                if (program.dayOf(act) == day) {
                    greatest = Math.max(greatest, prices[act]);
                }
            }
            return greatest;
        }

        private int firstOn(int day) {
            int greatest = greatestPrice(day);
            for (int act = 0; act < ACTS; act++) {
                if (greatest > 0 && prices[act] == greatest && program.dayOf(act) == day) {
                    return act;
                }
            }
            return NONE;
        }

        private int nextBehind(int before) {
            int rest = priceOf(before) - program.wishOf(visitor, before);
            for (int act = 0; act < ACTS; act++) {
                if (rest > 0 && prices[act] == rest && isReached(act, before)) {
                    return act;
                }
            }
            return NONE;
        }

        int weightOn(int day) {
            int weight = 0;
            int act = firstOn(day);
            for (int i = 0; i < ACTS && act != NONE; i++) {
                weight += program.wishOf(visitor, act);
                act = nextBehind(act);
            }
            return weight;
        }

        int actOn(int day, int place) {
            if (place < 0 || place >= ACTS) {
                return NONE;
            }
            int act = firstOn(day);
            for (int i = 0; i < place && act != NONE; i++) {
                act = nextBehind(act);
            }
            return act;
        }

        /** Looks at the evenings of all days, since an act may last into the next one. */
        boolean isAt(int stage, int minute) {
            for (int day = 0; day < DAYS; day++) {
                int act = firstOn(day);
                for (int i = 0; i < ACTS && act != NONE; i++) {
                    if (program.stageOf(act) == stage
                            && program.isOnIn(act, minute, minute + 1)) {
                        return true;
                    }
                    act = nextBehind(act);
                }
            }
            return false;
        }
    }

    /** The crowds, and the gates by which they go out. */
    private static final class Exits {
        /** All crowds are out earlier, if a gate lets one pass in a minute (a power of 2). */
        private static final int FAR = 8192;

        final int[] gates = new int[GATES];
        final int[] reaches = new int[GATES * STAGES];
        final int[] crowds = new int[STAGES];

        Exits() {
            fillRow(reaches, 10);
        }

        void copyFrom(Exits other) {
            copyRow(other.gates, gates);
            copyRow(other.reaches, reaches);
            copyRow(other.crowds, crowds);
        }

        int minutesOut() {
            if (sumOf(crowds) == 0) {
                return 0;
            }
            if (sumOf(gates) == 0) {
                return NONE;
            }
            // Who is not out by some minutes is not by fewer ones, so each step can halve the rest.
            int minutes = 0;
            for (int step = FAR; step > 0; step /= 2) {
                if (firstTooFull(minutes + step - 1) != 0) {
                    minutes += step;
                }
            }
            return minutes;
        }

        /** The least set of stages with too many people for the minutes; 0 if none has. */
        int firstTooFull(int minutes) {
            for (int set = 1; set < 1 << STAGES; set++) {
                if (crowdOf(set) > roomFor(set, minutes)) {
                    return set;
                }
            }
            return 0;
        }

        private int crowdOf(int set) {
            int people = 0;
            for (int stage = 0; stage < STAGES; stage++) {
                if ((set >> stage & 1) != 0) {
                    people += crowds[stage];
                }
            }
            return people;
        }

        private int roomFor(int set, int minutes) {
            int room = 0;
            for (int gate = 0; gate < GATES; gate++) {
                room += gates[gate] * Math.max(0, minutes - leastReach(gate, set));
            }
            return room;
        }

        private int leastReach(int gate, int set) {
            int least = FAR;
            for (int stage = 0; stage < STAGES; stage++) {
                int place = gate * STAGES + stage;
                if ((set >> stage & 1) != 0 && place >= 0 && place < reaches.length) {
                    least = Math.min(least, reaches[place]);
                }
            }
            return least;
        }
    }

    /** The lines at the bars. */
    private static final class Bars {
        /** All who are in lines, in the order in which they joined. */
        private final int[] order = new int[VISITORS];
        private int count = 0;
        private final int[] barsOf = new int[VISITORS];
        /** How many minutes are left to serve the first one of each bar. */
        final int[] left = new int[BARS];
        private final int[] free = new int[BARS];
        int serving = 3;
        int servings = 0;

        Bars() {
            fillRow(barsOf, NONE);
        }

        void copyFrom(Bars other) {
            copyRow(other.order, order);
            count = other.count;
            copyRow(other.barsOf, barsOf);
            copyRow(other.left, left);
            serving = other.serving;
            servings = other.servings;
        }

        int barOf(int visitor) {
            return visitor < 0 || visitor >= VISITORS ? NONE : barsOf[visitor];
        }

        int firstOf(int bar) {
            for (int i = 0; i < VISITORS && i < count; i++) {
                if (barOf(order[i]) == bar) {
                    return order[i];
                }
            }
            return NONE;
        }

        int lengthOf(int bar) {
            int length = 0;
            for (int visitor = 0; visitor < VISITORS; visitor++) {
                if (barsOf[visitor] == bar) {
                    length++;
                }
            }
            return length;
        }

        void enter(int bar, int visitor) {
            if (firstOf(bar) == NONE) {
                replace(left, bar, serving);
            }
            replace(order, count, visitor);
            count = Math.min(count + 1, VISITORS);
            replace(barsOf, visitor, bar);
        }

        void takeOut(int visitor) {
            int bar = barOf(visitor);
            if (firstOf(bar) == visitor) {
                replace(left, bar, serving);
            }
            int kept = 0;
            for (int i = 0; i < VISITORS && i < count; i++) {
                if (order[i] != visitor) {
                    replace(order, kept, order[i]);
                    kept++;
                }
            }
            count = kept;
            replace(barsOf, visitor, NONE);
        }

        void passMinute() {
            for (int bar = 0; bar < BARS; bar++) {
                int visitor = firstOf(bar);
                if (visitor != NONE) {
                    left[bar]--;
                    if (left[bar] <= 0) {
                        takeOut(visitor);
                        servings++;
                    }
                }
            }
        }

        int minutesTill(int visitor) {
            int bar = barOf(visitor);
            if (bar < 0 || bar >= BARS) {
                return NONE;
            }
            int ahead = 0;
            for (int i = 0; i < VISITORS && i < count && order[i] != visitor; i++) {
                if (barOf(order[i]) == bar) {
                    ahead++;
                }
            }
            return ahead == 0 ? 0 : left[bar] + (ahead - 1) * serving;
        }

        int sumInLines() {
            int sum = 0;
            for (int visitor = 0; visitor < VISITORS; visitor++) {
                if (barsOf[visitor] != NONE) {
                    sum += minutesTill(visitor);
                }
            }
            return sum;
        }

        int sumInOneLine() {
            for (int bar = 0; bar < BARS; bar++) {
                free[bar] = firstOf(bar) == NONE ? 0 : left[bar];
            }
            int sum = 0;
            for (int i = 0; i < VISITORS && i < count; i++) {
                if (firstOf(barOf(order[i])) != order[i]) {
                    int bar = freeFirst();
                    sum += free[bar];
                    free[bar] += serving;
                }
            }
            return sum;
        }

        private int freeFirst() {
            int first = 0;
            for (int bar = 1; bar < BARS; bar++) {
                if (free[bar] < free[first]) {
                    first = bar;
                }
            }
            return first;
        }
    }

    /** The helpers by the hour. */
    private static final class Shifts {
        private static final int MOST_LENGTH = 10;

        final int[] needs = new int[HOURS];
        int length = 8;
        final int[] starts = new int[HOURS];
        /** The most that hours from an hour on need, no two of them in one shift. */
        private final int[] most = new int[HOURS + MOST_LENGTH];

        void copyFrom(Shifts other) {
            copyRow(other.needs, needs);
            length = other.length;
        }

        void planStarts() {
            fillRow(starts, 0);
            for (int hour = 0; hour < HOURS; hour++) {
                int lack = needs[hour] - helpersAt(hour);
                int start = Math.min(hour, HOURS - length);
                if (lack > 0 && start >= 0) {
                    starts[start] += lack;
                }
            }
        }

        private int helpersAt(int hour) {
            int many = 0;
            int first = Math.max(0, hour - length + 1);
            for (int start = first; start <= hour && start < HOURS; start++) {
                many += starts[start];
            }
            return many;
        }

        int sumOfStarts() {
            return sumOf(starts);
        }

        int neediestHours() {
            fillRow(most, 0);
            for (int hour = HOURS - 1; hour >= 0; hour--) {
                most[hour] = Math.max(most[hour + 1], mostWith(hour));
            }
            int set = 0;
            int next = 0;
            for (int hour = 0; hour < HOURS; hour++) {
                if (hour >= next && needs[hour] > 0 && mostWith(hour) >= most[hour + 1]) {
                    set |= 1 << hour;
                    next = hour + length;
                }
            }
            return set;
        }

        private int mostWith(int hour) {
            int behind = hour + length;
            if (hour < 0 || hour >= HOURS || behind < 0 || behind >= most.length) {
                return 0;
            }
            return needs[hour] + most[behind];
        }

        int needOf(int set) {
            int sum = 0;
            for (int hour = 0; hour < HOURS; hour++) {
                if ((set >> hour & 1) != 0) {
                    sum += needs[hour];
                }
            }
            return sum;
        }
    }

    /** The power by the hour: first planCosts(), then what is asked of the plan. */
    private static final class Power {
        private static final int SETS = 1 << GENERATORS;
        private static final int TOO_DEAR = 1000000;

        final int[] loads = new int[HOURS];
        final int[] powers = new int[GENERATORS];
        final int[] starts = new int[GENERATORS];
        final int[] hourly = new int[GENERATORS];
        /** What each set of generators gives, costs to start and costs in an hour. */
        private final int[] powersOf = new int[SETS];
        private final int[] startsOf = new int[SETS];
        private final int[] hourlyOf = new int[SETS];
        /** The least cost from an hour on, by the set that was on in the hour before. */
        private final int[] costs = new int[(HOURS + 1) * SETS];

        void copyFrom(Power other) {
            copyRow(other.loads, loads);
            copyRow(other.powers, powers);
            copyRow(other.starts, starts);
            copyRow(other.hourly, hourly);
        }

        void planCosts() {
            addUp(powers, powersOf);
            addUp(starts, startsOf);
            addUp(hourly, hourlyOf);
            fillRow(costs, 0);
            for (int hour = HOURS - 1; hour >= 0; hour--) {
                for (int before = 0; before < SETS; before++) {
                    costs[hour * SETS + before] = costBy(hour, before, bestAt(hour, before));
                }
            }
        }

        private static void addUp(int[] single, int[] sums) {
            for (int set = 0; set < sums.length; set++) {
                sums[set] = 0;
                for (int i = 0; i < single.length; i++) {
                    if ((set >> i & 1) != 0) {
                        sums[set] += single[i];
                    }
                }
            }
        }

        /** What it costs from an hour on, if a set is on in it and another one was before. */
        private int costBy(int hour, int before, int set) {
            if (hour < 0 || hour >= HOURS || before < 0 || set < 0 || set >= SETS
                    || powersOf[set] < loads[hour]) {
                return TOO_DEAR;
            }
            int cost = hourlyOf[set] + startsOf[set & ~before] + costs[(hour + 1) * SETS + set];
            return Math.min(cost, TOO_DEAR);
        }

        private int bestAt(int hour, int before) {
            int best = 0;
            int least = TOO_DEAR;
            for (int set = 0; set < SETS; set++) {
                int cost = costBy(hour, before, set);
                if (cost < least) {
                    least = cost;
                    best = set;
                }
            }
            return best;
        }

        int leastCost() {
            return costs[0] >= TOO_DEAR ? NONE : costs[0];
        }

        int setAt(int hour) {
            int set = 0;
            for (int i = 0; i < HOURS && i <= hour; i++) {
                set = bestAt(i, set);
            }
            return set;
        }
    }

    /** Where acts go when it rains. */
    private static final class RainPlan {
        static final int MOST_MET = 6;
        private static final int LEFT_OUT = STAGES;

        private final Grounds grounds;
        private final Program program;
        boolean isKept = false;
        /** For each act a stage, LEFT_OUT, or NONE if the rain does not meet it. */
        final int[] goals = new int[ACTS];
        private final int[] met = new int[MOST_MET];
        private int metCount = 0;
        private final int[] tried = new int[MOST_MET];
        private int fewest = 0;

        RainPlan(Grounds grounds, Program program) {
            this.grounds = grounds;
            this.program = program;
        }

        void forget() {
            isKept = false;
        }

        private boolean isMet(int act, int from, int to) {
            return program.isOnIn(act, from, to) && grounds.isInOpenAir(program.stageOf(act));
        }

        int countMet(int from, int to) {
            int count = 0;
            for (int act = 0; act < ACTS; act++) {
                if (isMet(act, from, to)) {
                    count++;
                }
            }
            return count;
        }

        int make(int from, int to) {
            fillRow(goals, NONE);
            metCount = 0;
            for (int act = 0; act < ACTS; act++) {
                if (isMet(act, from, to) && metCount < MOST_MET) {
                    met[metCount] = act;
                    metCount++;
                }
            }
            fewest = metCount + 1;
            tryGoals(this, 0, 0);
            isKept = true;
            return fewest;
        }

        /** Tries goals in the order of the document, so the first of the best plans stays. */
        private static void tryGoals(RainPlan plan, int place, int leftOut) {
            if (leftOut >= plan.fewest || place < 0) {
                return;
            }
            if (place >= plan.metCount || place >= MOST_MET) {
                plan.keepTried(leftOut);
                return;
            }
            for (int stage = 0; stage < STAGES; stage++) {
                if (plan.hasRoom(stage, place)) {
                    plan.tried[place] = stage;
                    tryGoals(plan, place + 1, leftOut);
                }
            }
            plan.tried[place] = LEFT_OUT;
            tryGoals(plan, place + 1, leftOut + 1);
        }

        private void keepTried(int leftOut) {
            fewest = leftOut;
            for (int i = 0; i < metCount && i < MOST_MET; i++) {
                replace(goals, met[i], tried[i]);
            }
        }

        /** Acts that rain meets are on no covered stage, so those that are there all stay. */
        private boolean hasRoom(int stage, int place) {
            if (grounds.isInOpenAir(stage) || place < 0 || place >= MOST_MET) {
                return false;
            }
            for (int act = 0; act < ACTS; act++) {
                if (program.stageOf(act) == stage && program.doPiecesMeet(met[place], act)) {
                    return false;
                }
            }
            for (int i = 0; i < place; i++) {
                if (tried[i] == stage && program.doPiecesMeet(met[place], met[i])) {
                    return false;
                }
            }
            return true;
        }

        int carryOut() {
            int moved = 0;
            for (int act = 0; act < ACTS; act++) {
                if (goals[act] == LEFT_OUT) {
                    program.remove(act);
                } else if (goals[act] != NONE) {
                    program.shiftTo(act, goals[act]);
                    moved++;
                }
            }
            return moved;
        }
    }

    /** Prices, tickets and balances. */
    private static final class Purse {
        final int[] prices = new int[DAYS];
        /** What was paid to the house for each visitor's ticket for each day, or NONE. */
        final int[] paid = new int[VISITORS * DAYS];
        long house = 0L;
        final long[] visitors = new long[VISITORS];
        final long[] musicians = new long[MUSICIANS];

        Purse() {
            fillRow(prices, 20);
            fillRow(paid, NONE);
        }

        void copyFrom(Purse other) {
            copyRow(other.prices, prices);
            copyRow(other.paid, paid);
            house = other.house;
            copyRow(other.visitors, visitors);
            copyRow(other.musicians, musicians);
        }

        private static boolean isTicket(int visitor, int day) {
            return visitor >= 0 && visitor < VISITORS && day >= 0 && day < DAYS;
        }

        boolean hasTicket(int visitor, int day) {
            return isTicket(visitor, day) && paid[visitor * DAYS + day] != NONE;
        }

        private int coinsFor(int day, int age) {
            if (age < 6 || day < 0 || day >= DAYS) {
                return 0;
            }
            if (age <= 13) {
                return (prices[day] + 1) / 2;
            }
            // A fifth never is a half, so half of five parts added rounds as it should.
            return age < 65 ? prices[day] : (prices[day] * 4 + 2) / 5;
        }

        int sell(int visitor, int day, int age) {
            int coins = coinsFor(day, age);
            if (isTicket(visitor, day)) {
                paid[visitor * DAYS + day] = coins;
                visitors[visitor] -= coins;
                house += coins;
            }
            return coins;
        }

        int takeBack(int visitor, int day) {
            if (!isTicket(visitor, day)) {
                return 0;
            }
            int back = paid[visitor * DAYS + day] * 9 / 10;
            paid[visitor * DAYS + day] = NONE;
            visitors[visitor] += back;
            house -= back;
            return back;
        }

        int handOver(int visitor, int other, int day) {
            if (!isTicket(visitor, day) || !isTicket(other, day)) {
                return 0;
            }
            int coins = paid[visitor * DAYS + day];
            paid[visitor * DAYS + day] = NONE;
            paid[other * DAYS + day] = coins;
            visitors[visitor] += coins;
            visitors[other] -= coins;
            return coins;
        }

        /** Pays each member of each act of a set; returns what goes to each one. */
        int payMembers(Program program, int set) {
            int all = 0;
            for (int act = 0; act < ACTS; act++) {
                all += (set >> act & 1) * Integer.bitCount(program.membersOf(act));
            }
            if (house <= 0L || all <= 0) {
                return 0;
            }
            long each = house / all;
            house -= each * all;
            for (int act = 0; act < ACTS; act++) {
                payAct((set >> act & 1) == 0 ? 0 : program.membersOf(act), each);
            }
            return (int) each;
        }

        private void payAct(int members, long each) {
            for (int musician = 0; musician < MUSICIANS; musician++) {
                if ((members >> musician & 1) != 0) {
                    musicians[musician] += each;
                }
            }
        }

        long sumOfAll() {
            long sum = house;
            for (int visitor = 0; visitor < VISITORS; visitor++) {
                sum += visitors[visitor];
            }
            for (int musician = 0; musician < MUSICIANS; musician++) {
                sum += musicians[musician];
            }
            return sum;
        }
    }
}
