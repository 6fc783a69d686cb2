/** Promises 15 to 18 and 47 to 50: helpers and power by the hour. */
public final class HourTests {
    public static void main(String[] args) {
        setters();
        helpers();
        lastShift();
        proof();
        proofPrefersLeastHours();
        setLoad();
        setGenerator();
        cost();
        planPrefersLeastNumbers();
        noPlan();
        Check.end("HourTests");
    }

    private static void setters() {
        Festivalgrounds x = new Festivalgrounds();
        Check.same("15", x.setNeed(0, 9), 0);
        Check.same("15", x.setNeed(0, 4), 9);
        Check.same("15", x.setNeed(23, 1), 0);
        Check.same("16", x.setShift(10), 8);
        Check.same("16", x.setShift(2), 10);
        Check.illegalArgument("15", x, () -> x.setNeed(0, 10));
        Check.illegalArgument("15", x, () -> x.setNeed(0, -1));
        Check.outOfBounds("15", x, () -> x.setNeed(24, 10));
        Check.outOfBounds("15", x, () -> x.setNeed(-1, 1));
        Check.illegalArgument("16", x, () -> x.setShift(1));
        Check.illegalArgument("16", x, () -> x.setShift(11));
        Check.outOfBounds("47", x, () -> x.helpers(24));
        Check.outOfBounds("47", x, () -> x.helpers(-2));
    }

    private static void helpers() {
        Festivalgrounds x = new Festivalgrounds();
        x.setNeed(2, 3);
        x.setNeed(9, 4);
        x.setNeed(10, 4);
        Check.same("47 the hour 9 has those of the hour 2", x.helpers(9), 1);
        Check.same("47", x.helpers(2), 3);
        Check.same("47 the hour 10 has not", x.helpers(10), 3);
        Check.same("47 all", x.helpers(-1), 7);
        Check.same("47", x.helpers(3), 0);
        x.setShift(9);
        Check.same("47 a longer shift", x.helpers(-1), 4);
    }

    private static void lastShift() {
        Festivalgrounds x = new Festivalgrounds();
        x.setNeed(16, 1);
        x.setNeed(20, 3);
        x.setNeed(23, 5);
        Check.same("47 the last shift", x.helpers(16), 5);
        Check.same("47", x.helpers(20) + x.helpers(23), 0);
        x.setNeed(15, 2);
        Check.same("47", x.helpers(15) + " " + x.helpers(16) + " " + x.helpers(-1), "2 5 7");
        x.setShift(2);
        Check.same("47", x.helpers(22) + " " + x.helpers(23) + " " + x.helpers(20), "5 0 3");
    }

    private static void proof() {
        Festivalgrounds x = new Festivalgrounds();
        x.setNeed(0, 2);
        x.setNeed(7, 3);
        x.setNeed(8, 2);
        Check.same("48 0 and 8", x.proof(), 1 | 1 << 8);
        x.setNeed(7, 5);
        Check.same("48 7 alone", x.proof(), 1 << 7);
        x.setNeed(15, 1);
        Check.same("48 7 and 15", x.proof(), 1 << 7 | 1 << 15);
        x.setNeed(23, 1);
        Check.same("48 the last hour", x.proof(), 1 << 7 | 1 << 15 | 1 << 23);
    }

    private static void proofPrefersLeastHours() {
        Festivalgrounds x = new Festivalgrounds();
        x.setNeed(3, 2);
        x.setNeed(5, 2);
        Check.same("48 of two the least hour", x.proof(), 1 << 3);
        x.setNeed(12, 1);
        x.setNeed(13, 1);
        Check.same("48", x.proof(), 1 << 3 | 1 << 12);
        x.setNeed(2, 0);
        Check.same("48 hours without need are out", x.proof(), 1 << 3 | 1 << 12);
        x.setShift(10);
        Check.same("48 no longer apart", x.proof(), 1 << 3 | 1 << 13);
    }

    private static void setLoad() {
        Festivalgrounds x = new Festivalgrounds();
        Check.same("17", x.setLoad(3, 5, 500), 0);
        Check.same("17", x.setLoad(5, 5, 100), 500);
        Check.same("17", x.setLoad(4, 23, 0), 500);
        Check.same("17", x.setLoad(5, 5, 1), 0);
        Check.same("17", x.setLoad(0, 23, 7), 0);
        Check.same("17", x.setLoad(3, 3, 7), 7);
        Check.illegalArgument("17", x, () -> x.setLoad(3, 2, 1));
        Check.illegalArgument("17", x, () -> x.setLoad(3, 3, 501));
        Check.illegalArgument("17", x, () -> x.setLoad(3, 3, -1));
        Check.outOfBounds("17", x, () -> x.setLoad(24, 3, 501));
        Check.outOfBounds("17", x, () -> x.setLoad(-1, 3, 1));
        Check.outOfBounds("17", x, () -> x.setLoad(3, 24, 1));
        Check.outOfBounds("17", x, () -> x.setLoad(3, -1, 1));
    }

    private static void setGenerator() {
        Festivalgrounds x = new Festivalgrounds();
        Check.same("18", x.setGenerator(3, 200, 100, 100), 0);
        Check.same("18", x.setGenerator(3, 0, 0, 0), 200);
        Check.illegalArgument("18", x, () -> x.setGenerator(0, 201, 0, 0));
        Check.illegalArgument("18", x, () -> x.setGenerator(0, -1, 0, 0));
        Check.illegalArgument("18", x, () -> x.setGenerator(0, 0, 101, 0));
        Check.illegalArgument("18", x, () -> x.setGenerator(0, 0, -1, 0));
        Check.illegalArgument("18", x, () -> x.setGenerator(0, 0, 0, 101));
        Check.illegalArgument("18", x, () -> x.setGenerator(0, 0, 0, -1));
        Check.outOfBounds("18", x, () -> x.setGenerator(4, 201, 0, 0));
        Check.outOfBounds("18", x, () -> x.setGenerator(-1, 1, 0, 0));
    }

    private static void cost() {
        Festivalgrounds x = new Festivalgrounds();
        x.setGenerator(0, 100, 30, 10);
        x.setGenerator(1, 60, 5, 12);
        x.setLoad(0, 0, 50);
        Check.same("49 the hour 0 is started, too", x.cost(), 17);
        Check.same("50", x.isOn(0) + " " + x.isOn(1), "2 0");
        x.setLoad(2, 2, 50);
        Check.same("49 off in between", x.cost(), 34);
        Check.same("50", x.isOn(1), 0);
        x.setGenerator(1, 60, 20, 12);
        // Twice started are 64, on in between 56; the other one on three hours long is 60.
        Check.same("49 stays on", x.cost(), 56);
        Check.same("50 stays on", x.isOn(1), 2);
        x.setLoad(1, 1, 160);
        // The first one on all the time is 60, the other one in the hour 1 alone is 32.
        Check.same("49 both", x.cost(), 92);
        Check.same("50 both", x.isOn(0) + " " + x.isOn(1) + " " + x.isOn(2), "1 3 1");
    }

    private static void planPrefersLeastNumbers() {
        Festivalgrounds x = new Festivalgrounds();
        for (int generator = 0; generator < 4; generator++) {
            x.setGenerator(generator, 50, 0, 5);
        }
        x.setLoad(0, 23, 100);
        Check.same("49", x.cost(), 24 * 10);
        Check.same("50 the least number", x.isOn(0) + " " + x.isOn(23), "3 3");
        x.setGenerator(0, 50, 0, 6);
        Check.same("50", x.isOn(7), 6);
        x.setLoad(0, 23, 0);
        x.setGenerator(0, 50, 0, 0);
        Check.same("50 what costs nothing stays off", x.isOn(0), 0);
        x.setGenerator(1, 50, 9, 0);
        x.setGenerator(0, 0, 0, 0);
        x.setLoad(5, 5, 50);
        x.setLoad(7, 7, 50);
        Check.same("49 others cost by the hour", x.cost(), 9);
        Check.same("50 started late", x.isOn(4) + " " + x.isOn(5) + " " + x.isOn(6) + " "
                + x.isOn(7) + " " + x.isOn(8), "0 2 2 2 0");
    }

    private static void noPlan() {
        Festivalgrounds x = new Festivalgrounds();
        x.setLoad(12, 12, 1);
        Check.same("49", x.cost(), -1);
        Check.noSuchElement("50", x, () -> x.isOn(0));
        Check.outOfBounds("50", x, () -> x.isOn(24));
        Check.outOfBounds("50", x, () -> x.isOn(-1));
        for (int generator = 0; generator < 4; generator++) {
            x.setGenerator(generator, 125, 100, 100);
        }
        x.setLoad(0, 23, 500);
        Check.same("49 the dearest plan", x.cost(), 4 * 100 + 24 * 400);
        Check.same("50", x.isOn(12), 15);
        x.setGenerator(2, 124, 100, 100);
        Check.same("49", x.cost(), -1);
        Check.noSuchElement("50", x, () -> x.isOn(23));
    }
}
