/** Promises 57 to 59: how full the lineup is, the checksum, and errors. */
public final class MeasureTests {
    public static void main(String[] args) {
        lineupShare();
        checksum();
        checksumGoesRound();
        errors();
        Check.end("MeasureTests");
    }

    private static void lineupShare() {
        Festivalgrounds x = new Festivalgrounds();
        Check.same("57 without acts", x.lineupShare(), 0.0f);
        x.act(0, 100, 50, 0, 1);
        Check.same("57", x.lineupShare(), 1.0f);
        x.act(0, 100, 50, 0, 2);
        x.act(0, 100, 50, 0, 4);
        Check.same("57", x.lineupShare(), 1.0f / 3.0f);
        x.act(1, 100, 50, 0, 8);
        x.act(2, 100, 50, 0, 16);
        x.act(2, 200, 50, 0, 16);
        x.act(2, 300, 50, 0, 16);
        Check.same("57", x.lineupShare(), 5.0f / 7.0f);
    }

    private static void checksum() {
        Festivalgrounds x = new Festivalgrounds();
        long due = 7;
        for (int visitor = 0; visitor < 12; visitor++) {
            due *= 31;
        }
        Check.same("58 a new one", x.checksum(), due);
        x.act(3, 1234, 50, 0, 1);
        x.act(1, 99, 50, 0, 1);
        x.act(0, 5000, 50, 0, 1);
        x.drop(1);
        x.ticket(0, 0, 30);
        x.ticket(11, 0, 10);
        due = 7;
        due = 31 * due + 31234;
        due = 31 * due + 5000;
        due = 31 * due - 20;
        for (int visitor = 1; visitor < 11; visitor++) {
            due *= 31;
        }
        Check.same("58", x.checksum(), 31 * due - 10);
    }

    private static void checksumGoesRound() {
        Festivalgrounds x = new Festivalgrounds();
        java.math.BigInteger due = java.math.BigInteger.valueOf(7);
        java.math.BigInteger times = java.math.BigInteger.valueOf(31);
        for (int act = 0; act < 16; act++) {
            x.act(act % 4, 5000 + act, 50, 0, 1);
            due = due.multiply(times)
                    .add(java.math.BigInteger.valueOf(5000 + act + 10000 * (act % 4)));
        }
        due = due.multiply(times.pow(12));
        Check.same("58", x.checksum(), due.longValue());
    }

    private static void errors() {
        Festivalgrounds x = new Festivalgrounds();
        Check.same("59", x.errors(), 0);
        for (int act = 0; act < 16; act++) {
            x.act(act % 4, 100 + 20 * act, 50, act, 1 + act);
            x.wish(act % 12, act, act % 10);
            x.wish((act + 5) % 12, act, 9 - act % 10);
            Check.same("59", x.errors(), 0);
        }
        x.setCrowd(0, 100);
        Check.same("59 all gates are shut", x.errors(), 0);
        x.setGate(0, 7);
        x.join(0, 0);
        x.join(0, 1);
        x.setNeed(7, 7);
        x.setNeed(23, 3);
        x.ticket(0, 0, 30);
        x.payBands();
        Check.same("59", x.errors(), 0);
    }
}
