/** Promises 1 to 7 and 28 to 35: a new object, time, stages, ways, acts, wishes, lineups. */
public final class StageAndActTests {
    public static void main(String[] args) {
        newObject();
        setDate();
        setOpen();
        setWayAndWalk();
        act();
        actTakesLeastNumber();
        drop();
        wish();
        dateAt();
        actAt();
        firstIn();
        clash();
        clashes();
        pleased();
        lineupPrefersLeastActs();
        boundOfSeveralStages();
        Check.end("StageAndActTests");
    }

    private static void newObject() {
        Festivalgrounds x = new Festivalgrounds();
        Check.same("1 NONE", Festivalgrounds.NONE, -1);
        Check.same("1 acts", x.acts(), 0);
        Check.same("1 lost", x.lost(), 0);
        Check.same("1 served", x.served(), 0);
        Check.same("1 waits", x.waits(false), 0);
        Check.same("1 date", x.dateAt(0, 0) + " " + x.dateAt(0, 1) + " " + x.dateAt(0, 2),
                "2026 6 1");
        Check.same("1 weekday", x.dateAt(0, 3), 1);
        for (int bar = 0; bar < 3; bar++) {
            Check.same("1 line", x.line(bar), 0);
        }
        for (int visitor = 0; visitor < 12; visitor++) {
            Check.same("1 ticketAt", x.ticketAt(visitor, 0), -1);
            Check.same("1 waitOf", x.waitOf(visitor), -1);
            Check.same("1 balance", x.balance(1, visitor), 0);
            Check.same("1 balance", x.balance(2, visitor), 0);
        }
        Check.same("1 house", x.balance(0, 0), 0);
        Check.same("1 outBy", x.outBy(), 0);
        Check.same("1 helpers", x.helpers(-1), 0);
        Check.same("1 proof", x.proof(), 0);
        Check.same("1 cost", x.cost(), 0);
        Check.same("1 pleased", x.pleased(false), 0);
        Check.same("1 bound", x.pleased(true), 0);
        Check.same("1 errors", x.errors(), 0);
        Check.same("1 gate is shut", x.setGate(2, 1), 0);
        Check.same("1 reach", x.setReach(2, 3, 1), 10);
        Check.same("1 crowd", x.setCrowd(3, 0), 0);
        Check.same("1 serving", x.setServing(1), 3);
        Check.same("1 need", x.setNeed(23, 0), 0);
        Check.same("1 shift", x.setShift(2), 8);
        Check.same("1 load", x.setLoad(23, 23, 0), 0);
        Check.same("1 generator", x.setGenerator(3, 0, 0, 0), 0);
        Check.same("1 price", x.setPrice(3, 0), 20);
        Check.illegalState("1 nothing to undo", new Festivalgrounds(),
                () -> new Festivalgrounds().undo());
    }

    private static void setDate() {
        Festivalgrounds x = new Festivalgrounds();
        Check.same("2", x.setDate(2026, 11, 19), 4);
        Check.same("2", x.setDate(1, 1, 1), 1);
        Check.same("2", x.setDate(9990, 12, 31),
                java.time.LocalDate.of(9990, 12, 31).getDayOfWeek().getValue());
        Check.same("2", x.setDate(2024, 2, 29), 4);
        Check.same("2", x.setDate(2000, 2, 29), 2);
        int[][] wrong = {{0, 1, 1}, {9991, 1, 1}, {2026, 0, 1}, {2026, 13, 1}, {2026, 1, 0},
            {2026, 1, 32}, {2026, 4, 31}, {2026, 2, 29}, {2025, 2, 29}, {1900, 2, 29},
            {2024, 2, 30}, {-4, 2, 29}, {Integer.MIN_VALUE, 1, 1}, {2026, Integer.MAX_VALUE, 1},
            {2026, 6, Integer.MAX_VALUE}, {2026, 6, -1}, {2026, -1, 1}, {2026, 11, 31}};
        for (int[] date : wrong) {
            Check.illegalArgument("2 " + java.util.Arrays.toString(date), x,
                    () -> x.setDate(date[0], date[1], date[2]));
        }
        java.time.LocalDate day = java.time.LocalDate.of(1, 1, 1);
        for (int i = 0; i < 3000; i++) {
            Check.same("2 " + day,
                    x.setDate(day.getYear(), day.getMonthValue(), day.getDayOfMonth()),
                    day.getDayOfWeek().getValue());
            day = day.plusDays(1217);
            if (day.getYear() > 9990) {
                break;
            }
        }
    }

    private static void setOpen() {
        Festivalgrounds x = new Festivalgrounds();
        for (int stage = 0; stage < 4; stage++) {
            Check.same("3", x.setOpen(stage, true), false);
            Check.same("3", x.setOpen(stage, true), true);
            Check.same("3", x.setOpen(stage, false), true);
            Check.same("3", x.setOpen(stage, false), false);
        }
        Check.outOfBounds("3", x, () -> x.setOpen(4, true));
        Check.outOfBounds("3", x, () -> x.setOpen(-1, true));
        Check.outOfBounds("3", x, () -> x.setOpen(Integer.MIN_VALUE, false));
    }

    private static void setWayAndWalk() {
        Festivalgrounds x = new Festivalgrounds();
        Check.same("29", x.walk(3, 3), 0);
        Check.same("29", x.walk(3, 1), 10);
        Check.same("4", x.setWay(0, 1, 2), 2);
        Check.same("4", x.setWay(1, 2, 3), 3);
        Check.same("4", x.setWay(2, 3, 4), 4);
        Check.same("4 by others", x.setWay(0, 3, 60), 9);
        Check.same("29", x.walk(3, 0), 9);
        Check.same("29", x.walk(0, 2), 5);
        Check.same("29", x.walk(2, 0), 5);
        Check.same("4 longer again", x.setWay(2, 1, 60), 12);
        Check.same("29", x.walk(0, 3), 12);
        Check.same("4", x.setWay(3, 0, 1), 1);
        Check.illegalArgument("4 the same", x, () -> x.setWay(2, 2, 5));
        Check.illegalArgument("4 none", x, () -> x.setWay(1, 2, 0));
        Check.illegalArgument("4 too long", x, () -> x.setWay(1, 2, 61));
        Check.outOfBounds("4", x, () -> x.setWay(4, 4, 0));
        Check.outOfBounds("4", x, () -> x.setWay(-1, 0, 5));
        Check.outOfBounds("4", x, () -> x.setWay(0, 4, 61));
        Check.outOfBounds("4", x, () -> x.setWay(0, -1, 5));
        Check.outOfBounds("29", x, () -> x.walk(0, 4));
        Check.outOfBounds("29", x, () -> x.walk(4, 0));
        Check.outOfBounds("29", x, () -> x.walk(-1, 0));
        Check.outOfBounds("29", x, () -> x.walk(0, -1));
    }

    private static void act() {
        Festivalgrounds x = new Festivalgrounds();
        Check.same("5", x.act(3, 60, 240, 60, 4095), 0);
        Check.same("5 at the end", x.act(0, 5750, 10, 0, 1), 1);
        Check.same("5 at the beginning", x.act(0, 0, 10, 0, 1), 2);
        Check.illegalArgument("5 the piece begins too early", x, () -> x.act(0, 59, 10, 60, 1));
        Check.illegalArgument("5 ends too late", x, () -> x.act(0, 5751, 10, 0, 1));
        Check.illegalArgument("5", x, () -> x.act(0, 100, 9, 0, 1));
        Check.illegalArgument("5", x, () -> x.act(0, 100, 241, 0, 1));
        Check.illegalArgument("5", x, () -> x.act(0, 100, 10, -1, 1));
        Check.illegalArgument("5", x, () -> x.act(0, 100, 10, 61, 1));
        Check.illegalArgument("5", x, () -> x.act(0, 100, 10, 0, 0));
        Check.illegalArgument("5", x, () -> x.act(0, 100, 10, 0, 4096));
        Check.illegalArgument("5", x, () -> x.act(0, -1, 10, 0, 1));
        Check.illegalArgument("5", x, () -> x.act(0, Integer.MAX_VALUE, 240, 0, 1));
        Check.illegalArgument("5", x, () -> x.act(0, Integer.MIN_VALUE, 240, 60, 1));
        Check.illegalArgument("5", x, () -> x.act(0, 100, Integer.MAX_VALUE, 0, 1));
        Check.illegalArgument("5", x, () -> x.act(0, 100, 10, 0, Integer.MIN_VALUE));
        Check.outOfBounds("5", x, () -> x.act(4, -1, 0, 99, 0));
        Check.outOfBounds("5", x, () -> x.act(-1, 100, 10, 0, 1));
        for (int i = 3; i < 16; i++) {
            Check.same("5", x.act(i % 4, 100 * i, 10, 0, 1), i);
        }
        Check.illegalState("5 there are 16", x, () -> x.act(0, 100, 10, 0, 1));
        Check.illegalArgument("5 first", x, () -> x.act(0, 100, 9, 0, 1));
        Check.outOfBounds("5 first", x, () -> x.act(4, 100, 9, 0, 1));
    }

    private static void actTakesLeastNumber() {
        Festivalgrounds x = new Festivalgrounds();
        for (int i = 0; i < 5; i++) {
            x.act(0, 100 + i, 10, 0, 1);
        }
        x.drop(3);
        x.drop(1);
        Check.same("5 the least number", x.act(1, 200, 10, 0, 2), 1);
        Check.same("5 the least number", x.act(1, 200, 10, 0, 2), 3);
        Check.same("5 the least number", x.act(1, 200, 10, 0, 2), 5);
    }

    private static void drop() {
        Festivalgrounds x = new Festivalgrounds();
        x.act(0, 100, 10, 0, 1);
        x.act(1, 100, 10, 0, 2);
        x.wish(0, 0, 9);
        x.wish(11, 0, 4);
        x.wish(11, 1, 3);
        Check.same("6", x.drop(0), 13);
        Check.same("6", x.acts(), 1);
        Check.outOfBounds("6 twice", x, () -> x.drop(0));
        Check.outOfBounds("6", x, () -> x.drop(-1));
        Check.outOfBounds("6", x, () -> x.drop(16));
        Check.outOfBounds("6", x, () -> x.actAt(0, 0));
        x.act(0, 100, 10, 0, 1);
        Check.same("6 wishes are gone", x.actAt(0, 5), 0);
        Check.same("6 others stay", x.actAt(1, 5), 3);
        Check.same("6 wishes are gone", x.wish(11, 0, 1), 0);
    }

    private static void wish() {
        Festivalgrounds x = new Festivalgrounds();
        x.act(0, 100, 10, 0, 1);
        Check.same("7", x.wish(0, 0, 9), 0);
        Check.same("7", x.wish(0, 0, 2), 9);
        Check.same("7", x.wish(11, 0, 1), 0);
        Check.same("7", x.actAt(0, 5), 3);
        Check.same("7", x.wish(0, 0, 0), 2);
        Check.illegalArgument("7", x, () -> x.wish(0, 0, 10));
        Check.illegalArgument("7", x, () -> x.wish(0, 0, -1));
        Check.outOfBounds("7", x, () -> x.wish(12, 0, 10));
        Check.outOfBounds("7", x, () -> x.wish(-1, 0, 1));
        Check.outOfBounds("7", x, () -> x.wish(0, 1, 10));
        Check.outOfBounds("7", x, () -> x.wish(0, -1, 1));
        Check.outOfBounds("7", x, () -> x.wish(0, 16, 1));
    }

    private static void dateAt() {
        Festivalgrounds x = new Festivalgrounds();
        int[][] starts = {{2026, 6, 1}, {2026, 12, 29}, {2026, 12, 31}, {2024, 2, 27},
            {2025, 2, 26}, {1900, 2, 27}, {9990, 12, 30}, {1, 1, 1}, {2000, 2, 28}, {2023, 4, 28}};
        for (int[] start : starts) {
            x.setDate(start[0], start[1], start[2]);
            for (int minute = 0; minute < 5760; minute += 59) {
                java.time.LocalDateTime due = java.time.LocalDateTime
                        .of(start[0], start[1], start[2], 0, 0).plusMinutes(minute);
                String got = "";
                for (int what = 0; what <= 5; what++) {
                    got += x.dateAt(minute, what) + " ";
                }
                Check.same("28 " + due, got, due.getYear() + " " + due.getMonthValue() + " "
                        + due.getDayOfMonth() + " " + due.getDayOfWeek().getValue() + " "
                        + due.getHour() + " " + due.getMinute() + " ");
            }
        }
        Check.same("28 the last minute", x.dateAt(5759, 4) + ":" + x.dateAt(5759, 5), "23:59");
        Check.illegalArgument("28", x, () -> x.dateAt(-1, 0));
        Check.illegalArgument("28", x, () -> x.dateAt(5760, 0));
        Check.illegalArgument("28", x, () -> x.dateAt(0, -1));
        Check.illegalArgument("28", x, () -> x.dateAt(0, 6));
    }

    private static void actAt() {
        Festivalgrounds x = new Festivalgrounds();
        x.act(2, 1000, 33, 7, 2049);
        x.wish(4, 0, 6);
        int[] due = {2, 1000, 33, 7, 2049, 6, 1};
        for (int what = 0; what <= 6; what++) {
            Check.same("30", x.actAt(0, what), due[what]);
        }
        x.act(2, 1010, 33, 0, 2);
        Check.same("30 not in the lineup", x.actAt(1, 6), 0);
        Check.same("31", x.acts(), 2);
        x.drop(0);
        Check.same("31", x.acts(), 1);
        Check.illegalArgument("30", x, () -> x.actAt(1, -1));
        Check.illegalArgument("30", x, () -> x.actAt(1, 7));
        Check.outOfBounds("30", x, () -> x.actAt(0, 7));
        Check.outOfBounds("30", x, () -> x.actAt(-1, 0));
        Check.outOfBounds("30", x, () -> x.actAt(16, 0));
    }

    private static void firstIn() {
        Festivalgrounds x = new Festivalgrounds();
        x.act(1, 500, 10, 0, 1);
        x.act(1, 300, 10, 0, 1);
        x.act(1, 300, 10, 0, 1);
        x.act(2, 100, 10, 0, 1);
        Check.same("32 the least number", x.firstIn(1, 0, 5760), 1);
        Check.same("32 from is in", x.firstIn(1, 300, 301), 1);
        Check.same("32 to is out", x.firstIn(1, 0, 300), -1);
        Check.same("32", x.firstIn(1, 301, 501), 0);
        Check.same("32", x.firstIn(1, 301, 500), -1);
        Check.same("32", x.firstIn(2, Integer.MIN_VALUE, Integer.MAX_VALUE), 3);
        Check.same("32 empty", x.firstIn(1, 300, 300), -1);
        Check.same("32", x.firstIn(0, 0, 5760), -1);
        x.drop(1);
        Check.same("32 behind a drop", x.firstIn(1, 0, 5760), 2);
        Check.illegalArgument("32", x, () -> x.firstIn(1, 1, 0));
        Check.outOfBounds("32", x, () -> x.firstIn(4, 1, 0));
        Check.outOfBounds("32", x, () -> x.firstIn(-1, 0, 1));
    }

    private static void clash() {
        Festivalgrounds x = new Festivalgrounds();
        x.act(0, 100, 50, 0, 1);
        x.act(0, 150, 50, 0, 1);
        x.act(0, 160, 50, 11, 2);
        x.act(1, 100, 50, 0, 1);
        x.act(1, 100, 50, 0, 2);
        x.act(1, 210, 50, 11, 2 | 1);
        Check.same("33 behind one another", x.clash(0, 1), false);
        Check.same("33 the check", x.clash(0, 2), true);
        Check.same("33 the other way", x.clash(2, 0), true);
        Check.same("33 a member", x.clash(0, 3), true);
        Check.same("33 neither stage nor member", x.clash(0, 4), false);
        Check.same("33 pieces, other stage, member", x.clash(2, 5), true);
        Check.same("33 pieces, other stage, member", x.clash(1, 5), true);
        Check.same("33 apart", x.clash(3, 5), false);
        Check.illegalArgument("33", x, () -> x.clash(1, 1));
        Check.outOfBounds("33", x, () -> x.clash(6, 6));
        Check.outOfBounds("33", x, () -> x.clash(0, 6));
        Check.outOfBounds("33", x, () -> x.clash(-1, 0));
        Check.outOfBounds("33", x, () -> x.clash(16, 0));
    }

    private static void clashes() {
        Festivalgrounds x = new Festivalgrounds();
        Check.same("34", x.clashes(), 0);
        for (int i = 0; i < 16; i++) {
            x.act(0, 1000, 60, 0, 1);
        }
        Check.same("34 all pairs", x.clashes(), 120);
        x.drop(7);
        Check.same("34", x.clashes(), 105);
        x.act(1, 1000, 60, 0, 2);
        Check.same("34", x.clashes(), 105);
    }

    private static void pleased() {
        Festivalgrounds x = new Festivalgrounds();
        x.act(0, 100, 50, 0, 1);
        x.act(0, 140, 50, 0, 2);
        x.act(0, 180, 50, 0, 4);
        x.wish(0, 0, 4);
        x.wish(0, 1, 7);
        x.wish(0, 2, 4);
        Check.same("35 two of three", x.pleased(false), 8);
        Check.same("35 bound", x.pleased(true), 8);
        x.wish(1, 1, 1);
        Check.same("35 a tie takes the least act", x.actAt(0, 6), 1);
        x.wish(1, 1, 2);
        Check.same("35", x.pleased(false), 9);
        Check.same("35", x.actAt(0, 6) + " " + x.actAt(1, 6) + " " + x.actAt(2, 6), "0 1 0");
    }

    private static void lineupPrefersLeastActs() {
        Festivalgrounds x = new Festivalgrounds();
        x.act(0, 100, 100, 0, 1);
        x.act(0, 110, 20, 0, 2);
        x.act(0, 140, 20, 0, 4);
        x.act(1, 500, 20, 0, 8);
        Check.same("35 what pleases nobody is in, too",
                x.actAt(0, 6) + " " + x.actAt(1, 6) + " " + x.actAt(2, 6) + " " + x.actAt(3, 6),
                "1 0 0 1");
        x.wish(0, 2, 1);
        Check.same("35", x.actAt(0, 6) + " " + x.actAt(1, 6) + " " + x.actAt(2, 6), "0 1 1");
    }

    private static void boundOfSeveralStages() {
        Festivalgrounds x = new Festivalgrounds();
        for (int stage = 0; stage < 4; stage++) {
            x.act(stage, 100, 50, 0, 1);
            x.wish(stage, stage, stage + 1);
        }
        Check.same("35 one musician, four stages", x.pleased(false), 4);
        Check.same("35 the bound knows no members", x.pleased(true), 10);
        Check.same("35", x.actAt(3, 6), 1);
        Check.same("35", x.actAt(0, 6), 0);
    }
}
