/** Promises 36 to 39 and 56: evenings, prices, listeners. */
public final class EveningTests {
    public static void main(String[] args) {
        evening();
        walkBetweenStages();
        tieByNumbers();
        daysAreApart();
        price();
        listeners();
        listenersBehindMidnight();
        meanEvening();
        wrongNumbers();
        Check.end("EveningTests");
    }

    private static Festivalgrounds withActs(int[][] acts) {
        Festivalgrounds x = new Festivalgrounds();
        for (int[] act : acts) {
            x.act(act[0], act[1], act[2], act[3], act[4]);
        }
        return x;
    }

    private static String row(Festivalgrounds x, int visitor, int day) {
        StringBuilder text = new StringBuilder();
        for (int place = 0; place < 17; place++) {
            int at = place;
            text.append(Check.outcome(() -> x.eveningAct(visitor, day, at))).append(' ');
        }
        return text.toString().replace("throws.NoSuchElementException ", "").trim();
    }

    private static void evening() {
        Festivalgrounds x = withActs(new int[][] {
            {0, 700, 30, 0, 1}, {0, 600, 100, 0, 1}, {0, 729, 60, 0, 1}, {0, 730, 60, 0, 1}});
        Check.same("36 no wishes", x.evening(5, 0), 0);
        Check.same("37 no wishes", row(x, 5, 0), "");
        x.wish(5, 0, 2);
        Check.same("37 wished alone", row(x, 5, 0), "0");
        x.wish(5, 1, 3);
        x.wish(5, 2, 4);
        x.wish(5, 3, 3);
        Check.same("36", x.evening(5, 0), 8);
        Check.same("37", row(x, 5, 0), "1 0 3");
        x.wish(5, 2, 6);
        Check.same("36", x.evening(5, 0), 9);
        Check.same("37", row(x, 5, 0), "1 2");
        Check.same("36 another visitor", x.evening(4, 0), 0);
        Check.same("36 a check does not matter", withWish(
                withActs(new int[][] {{0, 100, 50, 0, 1}, {0, 150, 50, 60, 1}})), 2);
    }

    private static int withWish(Festivalgrounds x) {
        x.wish(0, 0, 1);
        x.wish(0, 1, 1);
        return x.evening(0, 0);
    }

    private static void walkBetweenStages() {
        Festivalgrounds x = withActs(new int[][] {{0, 100, 50, 0, 1}, {1, 160, 50, 0, 1}});
        x.wish(0, 0, 1);
        x.wish(0, 1, 1);
        Check.same("36 reached just in time", x.evening(0, 0), 2);
        x.setWay(0, 1, 11);
        Check.same("36 too late", x.evening(0, 0), 1);
        Check.same("37 the least number", row(x, 0, 0), "0");
        x.setWay(0, 2, 5);
        x.setWay(2, 1, 5);
        Check.same("36 by another stage", x.evening(0, 0), 2);
    }

    private static void tieByNumbers() {
        Festivalgrounds x = withActs(new int[][] {{0, 300, 50, 0, 1}, {0, 100, 50, 0, 1},
            {1, 100, 50, 0, 1}, {2, 310, 50, 0, 1}, {3, 500, 30, 0, 1}, {3, 500, 40, 0, 1}});
        for (int act = 0; act < 6; act++) {
            x.wish(0, act, 2);
        }
        Check.same("37 least numbers, one behind the other", row(x, 0, 0), "1 0 4");
        x.wish(0, 0, 1);
        Check.same("37", row(x, 0, 0), "1 3 4");
        x.wish(0, 1, 1);
        Check.same("37", row(x, 0, 0), "2 3 4");
        x.wish(0, 4, 1);
        Check.same("37", row(x, 0, 0), "2 3 5");
    }

    private static void daysAreApart() {
        Festivalgrounds x = withActs(new int[][] {{0, 1430, 10, 0, 1}, {0, 1439, 60, 0, 1},
            {0, 1440, 10, 0, 1}, {0, 5759 - 9, 10, 0, 1}});
        for (int act = 0; act < 4; act++) {
            x.wish(0, act, act + 1);
        }
        Check.same("36 day 0", x.evening(0, 0), 2);
        Check.same("36 day 1", x.evening(0, 1), 3);
        Check.same("36 day 2", x.evening(0, 2), 0);
        Check.same("36 day 3", x.evening(0, 3), 4);
        Check.same("37 day 3", row(x, 0, 3), "3");
        Check.same("38 ends with the day", x.price(0, 0), 1);
    }

    private static void price() {
        Festivalgrounds x = withActs(new int[][] {{0, 100, 50, 0, 1}, {0, 200, 50, 0, 1},
            {0, 300, 50, 0, 1}});
        x.wish(3, 0, 1);
        x.wish(3, 2, 4);
        Check.same("38", x.price(3, 0), 5);
        Check.same("38 not wished", x.price(3, 1), 0);
        Check.same("38", x.price(3, 2), 4);
        Check.same("38 another visitor", x.price(2, 0), 0);
        x.wish(3, 1, 9);
        Check.same("38", x.price(3, 0), 14);
        Check.same("38", x.price(3, 1), 13);
    }

    private static void listeners() {
        Festivalgrounds x = withActs(new int[][] {{0, 100, 50, 30, 1}, {0, 120, 50, 0, 1},
            {1, 100, 50, 0, 1}});
        x.wish(0, 0, 1);
        x.wish(1, 0, 1);
        x.wish(2, 1, 1);
        x.wish(3, 2, 1);
        Check.same("39 the check is not heard", x.listeners(0, 99), 0);
        Check.same("39", x.listeners(0, 100), 2);
        Check.same("39", x.listeners(0, 120), 3);
        Check.same("39", x.listeners(0, 149), 3);
        Check.same("39", x.listeners(0, 150), 1);
        Check.same("39", x.listeners(0, 169), 1);
        Check.same("39", x.listeners(0, 170), 0);
        Check.same("39", x.listeners(1, 120), 1);
        Check.same("39", x.listeners(2, 120), 0);
        x.wish(0, 2, 2);
        Check.same("39 by the best evening", x.listeners(0, 120), 2);
        Check.same("39 by the best evening", x.listeners(1, 120), 2);
    }

    private static void listenersBehindMidnight() {
        Festivalgrounds x = withActs(new int[][] {{0, 1400, 100, 0, 1}, {0, 1450, 100, 0, 1},
            {1, 1450, 100, 0, 1}});
        x.wish(0, 0, 5);
        Check.same("39 the evening of the day before", x.listeners(0, 1499), 1);
        x.wish(0, 1, 5);
        Check.same("39 once, if by two evenings", x.listeners(0, 1460), 1);
        x.wish(0, 2, 9);
        Check.same("39 each stage", x.listeners(0, 1460) + " " + x.listeners(1, 1460), "1 1");
    }

    private static void meanEvening() {
        Festivalgrounds x = withActs(new int[][] {{0, 100, 50, 0, 1}, {0, 1500, 50, 0, 1}});
        Check.same("56", x.meanEvening(0), 0.0);
        x.wish(0, 0, 3);
        x.wish(1, 0, 4);
        x.wish(2, 1, 9);
        Check.same("56", x.meanEvening(0), 7 / 12.0);
        Check.same("56", x.meanEvening(1), 0.75);
        Check.same("56", x.meanEvening(3), 0.0);
    }

    private static void wrongNumbers() {
        Festivalgrounds x = withActs(new int[][] {{0, 100, 50, 0, 1}});
        x.wish(0, 0, 3);
        Check.outOfBounds("36", x, () -> x.evening(12, 0));
        Check.outOfBounds("36", x, () -> x.evening(-1, 0));
        Check.outOfBounds("36", x, () -> x.evening(0, 4));
        Check.outOfBounds("36", x, () -> x.evening(0, -1));
        Check.outOfBounds("37", x, () -> x.eveningAct(12, 0, 0));
        Check.outOfBounds("37", x, () -> x.eveningAct(0, 4, 9));
        Check.outOfBounds("37", x, () -> x.eveningAct(0, -1, 9));
        Check.noSuchElement("37", x, () -> x.eveningAct(0, 0, 1));
        Check.noSuchElement("37", x, () -> x.eveningAct(0, 0, -1));
        Check.noSuchElement("37", x, () -> x.eveningAct(0, 0, 16));
        Check.noSuchElement("37", x, () -> x.eveningAct(0, 0, Integer.MAX_VALUE));
        Check.noSuchElement("37", x, () -> x.eveningAct(0, 0, Integer.MIN_VALUE));
        Check.noSuchElement("37", x, () -> x.eveningAct(0, 1, 0));
        Check.outOfBounds("38", x, () -> x.price(12, 0));
        Check.outOfBounds("38", x, () -> x.price(-1, 0));
        Check.outOfBounds("38", x, () -> x.price(0, 1));
        Check.outOfBounds("38", x, () -> x.price(0, -1));
        Check.outOfBounds("38", x, () -> x.price(0, 16));
        Check.outOfBounds("39", x, () -> x.listeners(4, 5760));
        Check.outOfBounds("39", x, () -> x.listeners(-1, 0));
        Check.illegalArgument("39", x, () -> x.listeners(0, 5760));
        Check.illegalArgument("39", x, () -> x.listeners(0, -1));
        Check.outOfBounds("56", x, () -> x.meanEvening(4));
        Check.outOfBounds("56", x, () -> x.meanEvening(-1));
    }
}
