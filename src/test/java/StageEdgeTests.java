import java.time.LocalDate;
import java.time.LocalDateTime;

/** The edges of promises 1 to 4, 28 and 29: a new object, dates, stages, ways. */
public final class StageEdgeTests {
    private static final String I = Edge.I;
    private static final String A = Edge.A;

    public static void main(String[] args) {
        newFestivalIsEmpty();
        newFestivalHasWhatTheTermsSay();
        years();
        months();
        lastDaysOfMonths();
        leapYears();
        weekdaysGoRound();
        weekdaysOfCenturies();
        minutes();
        whatOfMinutes();
        stepsOfHoursAndDays();
        stepsOfMonthsAndYears();
        open();
        wayNumbers();
        wayIsTheSameBothWays();
        wayReturnsTheWalkThen();
        walk();
        Check.end("StageEdgeTests");
    }

    private static void newFestivalIsEmpty() {
        Festivalgrounds x = new Festivalgrounds();
        Check.same("1 without acts", x.acts(), 0);
        for (int i = 0; i < 16; i++) {
            int act = i;
            Edge.refuses("1 there is no act " + act, Edge.NEW, y -> y.actAt(act, 0), I);
        }
        for (int bar = 0; bar < 3; bar++) {
            Check.same("1 without lines: bar " + bar, x.line(bar), 0);
        }
        for (int visitor = 0; visitor < 12; visitor++) {
            Check.same("1 without lines: visitor " + visitor, x.waitOf(visitor), -1);
            for (int day = 0; day < 4; day++) {
                Check.same("1 without tickets", x.ticketAt(visitor, day), -1);
            }
        }
        Check.same("1 nobody was served", x.served(), 0);
        Check.same("1 without things that are lost", x.lost(), 0);
        Edge.refuses("1 nothing is lost", Edge.NEW, y -> y.find(-1), Edge.N);
        Edge.refuses("1 no change can be undone", Edge.NEW, y -> y.undo(), Edge.S);
        Edge.refuses("1 no rain plan is kept", Edge.NEW, y -> y.moveAll(), Edge.S);
    }

    private static void newFestivalHasWhatTheTermsSay() {
        int[] date = {2026, 6, 1, 1, 0, 0};
        for (int i = 0; i <= 5; i++) {
            int what = i;
            Edge.answers("1 at first the 1st of June 2026: " + what, Edge.NEW,
                    x -> x.dateAt(0, what), date[what]);
        }
        for (int i = 0; i < 4; i++) {
            int n = i;
            Edge.answers("1 a stage is covered at first", Edge.NEW, x -> x.setOpen(n, true), false);
            Edge.answers("1 a crowd is 0 at first", Edge.NEW, x -> x.setCrowd(n, 1), 0);
            Edge.answers("1 a price is 20 at first", Edge.NEW, x -> x.setPrice(n, 1), 20);
            Edge.answers("1 a power is 0 at first", Edge.NEW,
                    x -> x.setGenerator(n, 1, 1, 1), 0);
            for (int j = 0; j < 4; j++) {
                int other = j;
                Edge.answers("1 a way is 10 at first", Edge.NEW, x -> x.walk(n, other),
                        n == other ? 0 : 10);
            }
            for (int j = 0; j < 3; j++) {
                int gate = j;
                Edge.answers("1 a gate is reached by 10 at first", Edge.NEW,
                        x -> x.setReach(gate, n, 1), 10);
                Edge.answers("1 a gate is shut at first", Edge.NEW, x -> x.setGate(gate, 1), 0);
            }
        }
        for (int i = 0; i < 24; i++) {
            int hour = i;
            Edge.answers("1 no helpers are needed at first", Edge.NEW,
                    x -> x.setNeed(hour, 1), 0);
            Edge.answers("1 no power is needed at first", Edge.NEW,
                    x -> x.setLoad(hour, 23, 1), 0);
            Edge.answers("1 all are off at first", Edge.NEW, x -> x.isOn(hour), 0);
        }
        Edge.answers("1 to serve takes 3 at first", Edge.NEW, x -> x.setServing(1), 3);
        Edge.answers("1 shifts have 8 hours at first", Edge.NEW, x -> x.setShift(2), 8);
        for (int i = 0; i < 12; i++) {
            int number = i;
            Edge.answers("1 a visitor's balance is 0 at first", Edge.NEW,
                    x -> x.balance(1, number), 0);
            Edge.answers("1 a musician's balance is 0 at first", Edge.NEW,
                    x -> x.balance(2, number), 0);
        }
        Edge.answers("1 the house's balance is 0 at first", Edge.NEW, x -> x.balance(0, 0), 0);
    }

    private static void years() {
        Edge.answers("2 year: 1 is taken", Edge.FULL, x -> x.setDate(1, 1, 1), 1);
        Edge.answers("2 year: 1 is kept", x -> x.setDate(1, 1, 1), x -> x.dateAt(0, 0), 1);
        Edge.answers("2 year: 9990 is taken", Edge.FULL, x -> x.setDate(9990, 1, 1),
                LocalDate.of(9990, 1, 1).getDayOfWeek().getValue());
        Edge.answers("2 year: 9990 is kept", x -> x.setDate(9990, 1, 1), x -> x.dateAt(0, 0),
                9990);
        Edge.refusesOutside("2 year: 1 to 9990", Edge.FULL, 1, 9990, A,
                (x, year) -> x.setDate(year, 1, 1));
    }

    private static void months() {
        Edge.range("2 month: 1 to 12", Edge.FULL, 1, 12, A,
                (x, month) -> x.setDate(2026, month, 1));
        Edge.range("2 month: 1 to 12", Edge.FULL, 1, 12, A,
                (x, month) -> x.setDate(2026, month, 28));
    }

    private static void lastDaysOfMonths() {
        int[] years = {2026, 2024};
        for (int i = 0; i < years.length; i++) {
            int year = years[i];
            for (int j = 1; j <= 12; j++) {
                int month = j;
                int days = LocalDate.of(year, month, 1).lengthOfMonth();
                Edge.range("2 day of the month " + month + " of " + year, Edge.FULL, 1, days, A,
                        (x, day) -> x.setDate(year, month, day));
                Edge.answers("2 the last day is kept", x -> x.setDate(year, month, days),
                        x -> x.dateAt(0, 1) + "/" + x.dateAt(0, 2), month + "/" + days);
                Edge.answers("28 the day behind it", x -> x.setDate(year, month, days),
                        x -> x.dateAt(1440, 1) + "/" + x.dateAt(1440, 2), month % 12 + 1 + "/1");
            }
        }
    }

    private static void leapYears() {
        int[] leap = {4, 400, 1600, 2000, 2028, 9600, 9988};
        for (int i = 0; i < leap.length; i++) {
            int year = leap[i];
            Edge.answers("2 the 29th of February " + year, Edge.FULL, x -> x.setDate(year, 2, 29),
                    LocalDate.of(year, 2, 29).getDayOfWeek().getValue());
            Edge.answers("28 behind the 28th of February " + year, x -> x.setDate(year, 2, 28),
                    x -> x.dateAt(1440, 1) + "/" + x.dateAt(1440, 2), "2/29");
            Edge.refuses("2 no 30th of February " + year, Edge.FULL,
                    x -> x.setDate(year, 2, 30), A);
        }
        int[] others = {1, 3, 100, 1700, 1800, 1900, 2100, 2026, 9900, 9990};
        for (int i = 0; i < others.length; i++) {
            int year = others[i];
            Edge.refuses("2 no 29th of February " + year, Edge.FULL,
                    x -> x.setDate(year, 2, 29), A);
            Edge.answers("28 behind the 28th of February " + year, x -> x.setDate(year, 2, 28),
                    x -> x.dateAt(1440, 1) + "/" + x.dateAt(1440, 2), "3/1");
        }
    }

    private static void weekdaysGoRound() {
        for (int i = 0; i < 15; i++) {
            int day = 16 + i;
            int due = i % 7 + 1;
            Edge.answers("2 weekday, 1 (Monday) to 7: 2026-11-" + day, Edge.FULL,
                    x -> x.setDate(2026, 11, day), due);
            for (int j = 0; j < 4; j++) {
                int later = j;
                Edge.answers("28 weekday, 1 Monday to 7, behind " + later + " days",
                        x -> x.setDate(2026, 11, day), x -> x.dateAt(1440 * later, 3),
                        (due - 1 + later) % 7 + 1);
            }
        }
    }

    private static void weekdaysOfCenturies() {
        for (int i = 1; i <= 9990; i += i % 100 == 0 ? 1 : 99) {
            int year = i;
            Edge.answers("2 weekday of the first day of " + year, Edge.NEW,
                    x -> x.setDate(year, 1, 1),
                    LocalDate.of(year, 1, 1).getDayOfWeek().getValue());
            Edge.answers("2 weekday of the last day of " + year, Edge.NEW,
                    x -> x.setDate(year, 12, 31),
                    LocalDate.of(year, 12, 31).getDayOfWeek().getValue());
        }
    }

    private static void minutes() {
        for (int i = 0; i <= 5; i++) {
            int what = i;
            Edge.refusesOutside("28 minute: 0 to 5759", Edge.FULL, 0, 5759, A,
                    (x, minute) -> x.dateAt(minute, what));
        }
        int[] first = {2026, 6, 1, 1, 0, 0};
        int[] last = {2026, 6, 4, 4, 23, 59};
        for (int i = 0; i <= 5; i++) {
            int what = i;
            Edge.answers("28 minute: 0 is taken", Edge.NEW, x -> x.dateAt(0, what), first[what]);
            Edge.answers("28 minute: 5759 is taken", Edge.NEW, x -> x.dateAt(5759, what),
                    last[what]);
        }
    }

    private static void whatOfMinutes() {
        Edge.range("28 what: 0 to 5", Edge.FULL, 0, 5, A, (x, what) -> x.dateAt(0, what));
        Edge.range("28 what: 0 to 5", Edge.FULL, 0, 5, A, (x, what) -> x.dateAt(5759, what));
    }

    private static void stepsOfHoursAndDays() {
        for (int hour = 0; hour < 96; hour++) {
            int first = 60 * hour;
            int due = hour % 24;
            Edge.answers("28 the first minute of an hour", Edge.NEW,
                    x -> x.dateAt(first, 4) + ":" + x.dateAt(first, 5), due + ":0");
            Edge.answers("28 the last minute of an hour", Edge.NEW,
                    x -> x.dateAt(first + 59, 4) + ":" + x.dateAt(first + 59, 5), due + ":59");
        }
        for (int day = 0; day < 4; day++) {
            int first = 1440 * day;
            int due = day + 1;
            Edge.answers("28 the first minute of the day " + day, Edge.NEW,
                    x -> x.dateAt(first, 2), due);
            Edge.answers("28 the last minute of the day " + day, Edge.NEW,
                    x -> x.dateAt(first + 1439, 2), due);
        }
    }

    private static void stepsOfMonthsAndYears() {
        int[][] starts = {{2026, 12, 28}, {2026, 12, 29}, {2026, 12, 30}, {2026, 12, 31},
            {9990, 12, 28}, {9990, 12, 31}, {1, 12, 31}, {1999, 12, 31}, {2024, 2, 25},
            {2024, 2, 26}, {2024, 2, 27}, {2024, 2, 28}, {2024, 2, 29}, {2026, 2, 25},
            {2026, 2, 26}, {2026, 2, 28}, {2100, 2, 27}, {2000, 2, 27}, {2026, 4, 27},
            {2026, 4, 30}, {2026, 1, 28}, {2026, 1, 29}, {2026, 1, 31}};
        for (int[] start : starts) {
            for (int i = 0; i < 8; i++) {
                int minute = i / 2 * 1440 + i % 2 * 1439;
                LocalDateTime due = LocalDate.of(start[0], start[1], start[2]).atStartOfDay()
                        .plusMinutes(minute);
                Edge.answers("28 the step behind a month or a year, to " + due,
                        x -> x.setDate(start[0], start[1], start[2]),
                        x -> x.dateAt(minute, 0) + "-" + x.dateAt(minute, 1) + "-"
                                + x.dateAt(minute, 2) + " " + x.dateAt(minute, 3),
                        due.getYear() + "-" + due.getMonthValue() + "-" + due.getDayOfMonth()
                                + " " + due.getDayOfWeek().getValue());
            }
        }
    }

    private static void open() {
        Edge.range("3 stage: 0 to 3", Edge.FULL, 0, 3, I, (x, stage) -> x.setOpen(stage, true));
        Edge.range("3 stage: 0 to 3", Edge.FULL, 0, 3, I, (x, stage) -> x.setOpen(stage, false));
        for (int i = 0; i < 16; i++) {
            int stage = i / 4;
            boolean was = i % 2 == 1;
            boolean is = i / 2 % 2 == 1;
            Edge.answers("3 whether it was", x -> x.setOpen(stage, was),
                    x -> x.setOpen(stage, is), was);
            Edge.answers("3 whether it is", Edge.behind(x -> x.setOpen(stage, was),
                    x -> x.setOpen(stage, is)), x -> x.setOpen(stage, was), is);
            Edge.answers("3 another stage stays", x -> x.setOpen(stage, true),
                    x -> x.setOpen((stage + 1) % 4, true), false);
        }
    }

    private static void wayNumbers() {
        Edge.refusesOutside("4 stage: 0 to 3", Edge.FULL, 0, 3, I,
                (x, stage) -> x.setWay(stage, 2, 5));
        Edge.refusesOutside("4 other: 0 to 3", Edge.FULL, 0, 3, I,
                (x, other) -> x.setWay(2, other, 5));
        for (int i = 0; i < 16; i++) {
            int stage = i / 4;
            int other = i % 4;
            if (stage == other) {
                Edge.refuses("4 both are the same", Edge.FULL, x -> x.setWay(stage, other, 5), A);
                continue;
            }
            Edge.answers("4 minutes: 1 is taken", Edge.NEW, x -> x.setWay(stage, other, 1), 1);
            Edge.refusesOutside("4 minutes: 1 to 60", Edge.FULL, 1, 60, A,
                    (x, minutes) -> x.setWay(stage, other, minutes));
        }
        Edge.Steps farApart = x -> {
            for (int pair = 0; pair < 16; pair++) {
                if (pair / 4 < pair % 4) {
                    x.setWay(pair / 4, pair % 4, 60);
                }
            }
        };
        Edge.answers("4 minutes: 60 is taken", farApart, x -> x.setWay(0, 3, 60), 60);
        Edge.answers("29 the longest walk", farApart, x -> x.walk(3, 1), 60);
    }

    private static void wayIsTheSameBothWays() {
        for (int i = 0; i < 16; i++) {
            int stage = i / 4;
            int other = i % 4;
            if (stage != other) {
                Edge.answers("4 there", x -> x.setWay(stage, other, 3),
                        x -> x.walk(stage, other), 3);
                Edge.answers("4 and back", x -> x.setWay(stage, other, 3),
                        x -> x.walk(other, stage), 3);
                Edge.answers("4 the later one counts for both", Edge.behind(
                        x -> x.setWay(stage, other, 3), x -> x.setWay(other, stage, 8)),
                        x -> x.walk(stage, other), 8);
            }
        }
    }

    private static void wayReturnsTheWalkThen() {
        Edge.answers("4 a way as long as the one by others", Edge.NEW,
                x -> x.setWay(0, 1, 20), 20);
        Edge.answers("4 a way longer than the one by others", Edge.NEW,
                x -> x.setWay(0, 1, 21), 20);
        Edge.answers("4 a way shorter than the one by others", Edge.NEW,
                x -> x.setWay(0, 1, 19), 19);
        Edge.answers("4 the way before is forgotten", x -> x.setWay(0, 1, 1),
                x -> x.setWay(0, 1, 20), 20);
        Edge.answers("4 other walks get shorter, too", x -> x.setWay(0, 1, 1),
                x -> x.walk(2, 0) + " " + x.walk(2, 1) + " " + x.walk(2, 3), "10 10 10");
        Edge.answers("4 other walks get shorter, too",
                Edge.behind(x -> x.setWay(0, 1, 1), x -> x.setWay(1, 2, 3)),
                x -> x.walk(2, 0) + " " + x.walk(0, 2), "4 4");
        Edge.answers("4 other walks get longer again", Edge.behind(
                Edge.behind(x -> x.setWay(0, 1, 1), x -> x.setWay(1, 2, 3)),
                x -> x.setWay(2, 1, 60)), x -> x.walk(2, 0) + " " + x.walk(2, 1), "10 11");
    }

    private static void walk() {
        Edge.range("29 stage: 0 to 3", Edge.FULL, 0, 3, I, (x, stage) -> x.walk(stage, 1));
        Edge.range("29 other: 0 to 3", Edge.FULL, 0, 3, I, (x, other) -> x.walk(1, other));
        for (int i = 0; i < 4; i++) {
            int stage = i;
            Edge.answers("29 from a stage to itself it is 0", Edge.FULL,
                    x -> x.walk(stage, stage), 0);
        }
        int[][] rows = {{0, 1, 2, 3}, {0, 2, 1, 3}, {1, 0, 3, 2}, {3, 0, 1, 2}, {2, 0, 3, 1}};
        for (int[] row : rows) {
            Edge.Steps chain = x -> {
                x.setWay(row[0], row[3], 60);
                x.setWay(row[0], row[1], 2);
                x.setWay(row[2], row[1], 3);
                x.setWay(row[2], row[3], 4);
            };
            Edge.answers("29 by two other stages", chain, x -> x.walk(row[0], row[3]), 9);
            Edge.answers("29 and back", chain, x -> x.walk(row[3], row[0]), 9);
            Edge.answers("29 by one other stage", chain, x -> x.walk(row[3], row[1]), 7);
            Edge.answers("29 the way itself as short", Edge.behind(chain,
                    x -> x.setWay(row[0], row[3], 9)), x -> x.walk(row[0], row[3]), 9);
            Edge.answers("29 the way itself shorter by one", Edge.behind(chain,
                    x -> x.setWay(row[0], row[3], 8)), x -> x.walk(row[0], row[3]), 8);
        }
    }
}
