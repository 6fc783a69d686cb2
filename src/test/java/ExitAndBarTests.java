/** Promises 8 to 14 and 40 to 46: gates, crowds, lines at bars. */
public final class ExitAndBarTests {
    public static void main(String[] args) {
        setters();
        oneGate();
        severalGates();
        cut();
        longestWayOut();
        join();
        leave();
        pass();
        changedServing();
        front();
        waits();
        servedCountsEachTime();
        Check.end("ExitAndBarTests");
    }

    private static void setters() {
        Festivalgrounds x = new Festivalgrounds();
        Check.same("8", x.setGate(0, 50), 0);
        Check.same("8", x.setGate(0, 0), 50);
        Check.same("8", x.setGate(2, 7), 0);
        Check.same("9", x.setReach(0, 0, 30), 10);
        Check.same("9", x.setReach(0, 0, 1), 30);
        Check.same("9", x.setReach(2, 3, 5), 10);
        Check.same("9", x.setReach(2, 3, 6), 5);
        Check.same("10", x.setCrowd(3, 2000), 0);
        Check.same("10", x.setCrowd(3, 0), 2000);
        Check.illegalArgument("8", x, () -> x.setGate(0, 51));
        Check.illegalArgument("8", x, () -> x.setGate(0, -1));
        Check.outOfBounds("8", x, () -> x.setGate(3, 51));
        Check.outOfBounds("8", x, () -> x.setGate(-1, 1));
        Check.illegalArgument("9", x, () -> x.setReach(0, 0, 0));
        Check.illegalArgument("9", x, () -> x.setReach(0, 0, 31));
        Check.outOfBounds("9", x, () -> x.setReach(3, 0, 31));
        Check.outOfBounds("9", x, () -> x.setReach(-1, 0, 1));
        Check.outOfBounds("9", x, () -> x.setReach(0, 4, 31));
        Check.outOfBounds("9", x, () -> x.setReach(0, -1, 1));
        Check.illegalArgument("10", x, () -> x.setCrowd(0, 2001));
        Check.illegalArgument("10", x, () -> x.setCrowd(0, -1));
        Check.outOfBounds("10", x, () -> x.setCrowd(4, 2001));
        Check.outOfBounds("10", x, () -> x.setCrowd(-1, 1));
    }

    private static void oneGate() {
        Festivalgrounds x = new Festivalgrounds();
        Check.same("40 nobody", x.outBy(), 0);
        Check.same("41 nobody", x.cut(), 0);
        x.setCrowd(1, 1);
        Check.same("40 all are shut", x.outBy(), -1);
        Check.same("41 all are shut", x.cut(), 0);
        x.setGate(2, 10);
        Check.same("40 one", x.outBy(), 11);
        Check.same("41 one", x.cut(), 2);
        x.setCrowd(1, 10);
        Check.same("40 a full minute", x.outBy(), 11);
        x.setCrowd(1, 11);
        Check.same("40 one more", x.outBy(), 12);
        x.setReach(2, 1, 1);
        Check.same("40 near", x.outBy(), 3);
    }

    private static void severalGates() {
        Festivalgrounds x = new Festivalgrounds();
        x.setGate(0, 5);
        x.setGate(1, 3);
        x.setReach(0, 0, 2);
        x.setReach(1, 0, 8);
        x.setCrowd(0, 30);
        Check.same("40 by one gate alone", x.outBy(), 8);
        x.setCrowd(0, 31);
        Check.same("40 by both", x.outBy(), 9);
        x.setCrowd(1, 100);
        // 131 people: 5 (n - 2) + 3 (n - 8) is enough from n = 21 on, and the stage 1 alone
        // has 5 (n - 10) + 3 (n - 10), enough from n = 23 on.
        Check.same("40 the farther stage", x.outBy(), 23);
        Check.same("41 the farther stage", x.cut(), 2);
    }

    private static void cut() {
        Festivalgrounds x = new Festivalgrounds();
        x.setGate(0, 10);
        x.setCrowd(0, 10);
        x.setCrowd(3, 10);
        Check.same("40", x.outBy(), 12);
        Check.same("41 only both together", x.cut(), 9);
        x.setCrowd(1, 100);
        Check.same("40", x.outBy(), 22);
        Check.same("41 all three", x.cut(), 11);
        x.setCrowd(1, 111);
        x.setCrowd(0, 9);
        x.setCrowd(3, 10);
        Check.same("40", x.outBy(), 23);
        Check.same("41 of two the least number", x.cut(), 10);
    }

    private static void longestWayOut() {
        Festivalgrounds x = new Festivalgrounds();
        x.setGate(1, 1);
        for (int stage = 0; stage < 4; stage++) {
            x.setCrowd(stage, 2000);
            x.setReach(1, stage, 30);
        }
        Check.same("40", x.outBy(), 8030);
        Check.same("41", x.cut(), 15);
        x.setGate(0, 50);
        x.setGate(1, 50);
        x.setGate(2, 50);
        Check.same("40", x.outBy(), 70);
    }

    private static void join() {
        Festivalgrounds x = new Festivalgrounds();
        Check.same("12", x.join(0, 4), 0);
        Check.same("12", x.join(0, 3), 3);
        Check.same("12", x.join(0, 11), 6);
        Check.same("12", x.join(2, 0), 0);
        Check.same("42", x.line(0) + " " + x.line(1) + " " + x.line(2), "3 0 1");
        x.pass(2);
        Check.same("12", x.join(0, 7), 7);
        Check.illegalState("12", x, () -> x.join(1, 4));
        Check.illegalState("12", x, () -> x.join(0, 11));
        Check.outOfBounds("12", x, () -> x.join(3, 4));
        Check.outOfBounds("12", x, () -> x.join(-1, 5));
        Check.outOfBounds("12", x, () -> x.join(0, 12));
        Check.outOfBounds("12", x, () -> x.join(0, -1));
        Check.outOfBounds("42", x, () -> x.line(3));
        Check.outOfBounds("42", x, () -> x.line(-1));
        Check.outOfBounds("44", x, () -> x.waitOf(12));
        Check.outOfBounds("44", x, () -> x.waitOf(-1));
    }

    private static void leave() {
        Festivalgrounds x = new Festivalgrounds();
        x.join(1, 0);
        x.join(1, 1);
        x.join(1, 2);
        x.join(2, 3);
        x.pass(2);
        Check.same("13 from the middle", x.leave(1), 1);
        Check.same("13", x.front(1, false) + " " + x.front(1, true), "0 1");
        Check.same("13", x.waitOf(2), 1);
        Check.same("13 from the front", x.leave(0), 1);
        Check.same("13 the next one begins", x.front(1, false) + " " + x.front(1, true), "2 3");
        Check.same("13 another bar", x.leave(3), 2);
        Check.same("13 nobody was served", x.served(), 0);
        Check.same("13", x.waitOf(3), -1);
        Check.illegalState("13", x, () -> x.leave(3));
        Check.outOfBounds("13", x, () -> x.leave(12));
        Check.outOfBounds("13", x, () -> x.leave(-1));
        Check.same("13 joins again", x.join(1, 0), 3);
    }

    private static void pass() {
        Festivalgrounds x = new Festivalgrounds();
        Check.same("14 without lines", x.pass(60), 0);
        x.join(0, 0);
        x.join(0, 1);
        x.join(1, 2);
        Check.same("14", x.pass(2), 0);
        Check.same("14", x.front(0, true), 1);
        Check.same("14", x.pass(1), 2);
        Check.same("14", x.front(0, false) + " " + x.front(0, true), "1 3");
        Check.same("14", x.line(1), 0);
        Check.same("14", x.pass(60), 1);
        Check.same("14", x.line(0), 0);
        Check.same("14", x.served(), 3);
        Check.illegalArgument("14", x, () -> x.pass(0));
        Check.illegalArgument("14", x, () -> x.pass(61));
        Check.illegalArgument("14", x, () -> x.pass(-1));
        x.setServing(1);
        for (int visitor = 0; visitor < 12; visitor++) {
            x.join(visitor % 2, visitor);
        }
        Check.same("14 one a minute", x.pass(5), 10);
        Check.same("14", x.front(0, false) + " " + x.front(1, false), "10 11");
    }

    private static void changedServing() {
        Festivalgrounds x = new Festivalgrounds();
        x.join(0, 0);
        x.join(0, 1);
        x.join(0, 2);
        x.pass(1);
        Check.same("11", x.setServing(10), 3);
        Check.same("11 goes on by what is left", x.front(0, true), 2);
        Check.same("11 the next ones take longer", x.waitOf(2), 12);
        x.pass(2);
        Check.same("11", x.front(0, true), 10);
        Check.same("11", x.setServing(1), 10);
        Check.same("11", x.front(0, true), 10);
        Check.same("11", x.waitOf(2), 10);
        Check.illegalArgument("11", x, () -> x.setServing(0));
        Check.illegalArgument("11", x, () -> x.setServing(11));
    }

    private static void front() {
        Festivalgrounds x = new Festivalgrounds();
        Check.noSuchElement("43", x, () -> x.front(0, false));
        Check.noSuchElement("43", x, () -> x.front(2, true));
        Check.outOfBounds("43", x, () -> x.front(3, false));
        Check.outOfBounds("43", x, () -> x.front(-1, true));
        x.join(2, 9);
        x.join(2, 1);
        Check.same("43", x.front(2, false), 9);
        Check.same("43", x.front(2, true), 3);
        x.pass(3);
        Check.same("43", x.front(2, false), 1);
        Check.same("43", x.front(2, true), 3);
    }

    private static void waits() {
        Festivalgrounds x = new Festivalgrounds();
        x.setServing(10);
        x.join(0, 0);
        x.join(0, 1);
        x.join(0, 2);
        x.join(0, 3);
        Check.same("45", x.waits(false), 10 + 20 + 30);
        Check.same("45 two go to free bars, one behind", x.waits(true), 10);
        x.join(1, 4);
        x.pass(4);
        Check.same("45", x.waits(false), 6 + 16 + 26);
        Check.same("45 one bar is free", x.waits(true), 6 + 6);
        x.setServing(2);
        Check.same("45", x.waits(false), 6 + 8 + 10);
        Check.same("45 all go to the free bar", x.waits(true), 2 + 4);
        x.leave(0);
        Check.same("45", x.waits(false), 2 + 4);
        Check.same("45", x.waits(true), 2);
        Check.same("44", x.waitOf(1) + " " + x.waitOf(3) + " " + x.waitOf(0), "0 4 -1");
    }

    private static void servedCountsEachTime() {
        Festivalgrounds x = new Festivalgrounds();
        for (int i = 0; i < 5; i++) {
            x.join(1, 6);
            x.pass(3);
        }
        Check.same("46", x.served(), 5);
        x.join(1, 6);
        x.leave(6);
        Check.same("46", x.served(), 5);
    }
}
