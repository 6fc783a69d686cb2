/** Promises 20 to 26 and 53 to 55: prices, tickets, pay, balances, lost things. */
public final class TicketAndThingTests {
    public static void main(String[] args) {
        setPrice();
        ticketByAge();
        ticket();
        refund();
        resell();
        payBands();
        nothingToPay();
        balance();
        loseAndFind();
        Check.end("TicketAndThingTests");
    }

    private static void setPrice() {
        Festivalgrounds x = new Festivalgrounds();
        Check.same("20", x.setPrice(0, 500), 20);
        Check.same("20", x.setPrice(0, 0), 500);
        Check.same("20", x.setPrice(3, 1), 20);
        Check.illegalArgument("20", x, () -> x.setPrice(0, 501));
        Check.illegalArgument("20", x, () -> x.setPrice(0, -1));
        Check.outOfBounds("20", x, () -> x.setPrice(4, 501));
        Check.outOfBounds("20", x, () -> x.setPrice(-1, 1));
        x.ticket(0, 1, 30);
        x.setPrice(1, 100);
        Check.same("20 tickets that are bought keep theirs", x.ticketAt(0, 1), 20);
        Check.same("20", x.ticket(1, 1, 30), 100);
    }

    private static void ticketByAge() {
        // The price; then for the ages 0, 5, 6, 13, 14, 64, 65, 120.
        int[][] due = {{0, 0, 0, 0, 0, 0, 0, 0, 0}, {1, 0, 0, 1, 1, 1, 1, 1, 1},
            {2, 0, 0, 1, 1, 2, 2, 2, 2}, {3, 0, 0, 2, 2, 3, 3, 2, 2}, {4, 0, 0, 2, 2, 4, 4, 3, 3},
            {7, 0, 0, 4, 4, 7, 7, 6, 6}, {20, 0, 0, 10, 10, 20, 20, 16, 16},
            {21, 0, 0, 11, 11, 21, 21, 17, 17}, {22, 0, 0, 11, 11, 22, 22, 18, 18},
            {23, 0, 0, 12, 12, 23, 23, 18, 18}, {24, 0, 0, 12, 12, 24, 24, 19, 19},
            {499, 0, 0, 250, 250, 499, 499, 399, 399}, {500, 0, 0, 250, 250, 500, 500, 400, 400}};
        int[] ages = {0, 5, 6, 13, 14, 64, 65, 120};
        for (int[] row : due) {
            Festivalgrounds x = new Festivalgrounds();
            x.setPrice(2, row[0]);
            for (int i = 0; i < ages.length; i++) {
                Check.same("21 " + row[0] + " at " + ages[i], x.ticket(i, 2, ages[i]), row[i + 1]);
            }
        }
    }

    private static void ticket() {
        Festivalgrounds x = new Festivalgrounds();
        Check.same("21", x.ticket(3, 2, 10), 10);
        Check.same("53", x.ticketAt(3, 2), 10);
        Check.same("53", x.ticketAt(3, 1), -1);
        Check.same("53", x.ticketAt(2, 2), -1);
        Check.same("21", x.balance(0, 0) + " " + x.balance(1, 3), "10 -10");
        Check.same("21 for nothing", x.ticket(3, 0, 0), 0);
        Check.same("53 it is a ticket", x.ticketAt(3, 0), 0);
        Check.illegalState("21", x, () -> x.ticket(3, 0, 40));
        Check.illegalState("21", x, () -> x.ticket(3, 2, 40));
        Check.illegalArgument("21", x, () -> x.ticket(3, 2, -1));
        Check.illegalArgument("21", x, () -> x.ticket(3, 1, 121));
        Check.outOfBounds("21", x, () -> x.ticket(12, 2, 121));
        Check.outOfBounds("21", x, () -> x.ticket(-1, 2, 1));
        Check.outOfBounds("21", x, () -> x.ticket(3, 4, 121));
        Check.outOfBounds("21", x, () -> x.ticket(3, -1, 1));
        Check.outOfBounds("53", x, () -> x.ticketAt(12, 0));
        Check.outOfBounds("53", x, () -> x.ticketAt(-1, 0));
        Check.outOfBounds("53", x, () -> x.ticketAt(0, 4));
        Check.outOfBounds("53", x, () -> x.ticketAt(0, -1));
    }

    private static void refund() {
        Festivalgrounds x = new Festivalgrounds();
        x.setPrice(0, 499);
        x.ticket(0, 0, 30);
        Check.same("22 rounded down", x.refund(0, 0), 449);
        Check.same("22", x.balance(0, 0) + " " + x.balance(1, 0), "50 -50");
        Check.same("22 it goes away", x.ticketAt(0, 0), -1);
        Check.noSuchElement("22", x, () -> x.refund(0, 0));
        Check.noSuchElement("22", x, () -> x.refund(1, 0));
        x.ticket(0, 0, 3);
        Check.same("22 of nothing", x.refund(0, 0), 0);
        x.setPrice(0, 1);
        x.ticket(0, 0, 30);
        Check.same("22 of one coin", x.refund(0, 0), 0);
        Check.outOfBounds("22", x, () -> x.refund(12, 0));
        Check.outOfBounds("22", x, () -> x.refund(-1, 0));
        Check.outOfBounds("22", x, () -> x.refund(0, 4));
        Check.outOfBounds("22", x, () -> x.refund(0, -1));
    }

    private static void resell() {
        Festivalgrounds x = new Festivalgrounds();
        x.ticket(0, 1, 70);
        x.setPrice(1, 500);
        Check.same("23", x.resell(0, 5, 1), 16);
        Check.same("23 between the two", x.balance(1, 0) + " " + x.balance(1, 5) + " "
                + x.balance(0, 0), "0 -16 16");
        Check.same("23", x.ticketAt(0, 1) + " " + x.ticketAt(5, 1), "-1 16");
        x.ticket(0, 1, 30);
        Check.illegalState("23 both have one", x, () -> x.resell(0, 5, 1));
        Check.illegalState("23 the same", x, () -> x.resell(5, 5, 1));
        Check.noSuchElement("23", x, () -> x.resell(1, 5, 1));
        Check.noSuchElement("23 first", x, () -> x.resell(5, 0, 2));
        Check.noSuchElement("23 the same without one", x, () -> x.resell(1, 1, 1));
        Check.outOfBounds("23", x, () -> x.resell(12, 5, 1));
        Check.outOfBounds("23", x, () -> x.resell(-1, 5, 1));
        Check.outOfBounds("23", x, () -> x.resell(1, 12, 1));
        Check.outOfBounds("23", x, () -> x.resell(1, -1, 1));
        Check.outOfBounds("23", x, () -> x.resell(1, 5, 4));
        Check.outOfBounds("23", x, () -> x.resell(1, 5, -1));
        Check.same("23 given back it counts what was paid to the house", x.refund(5, 1), 14);
        Check.same("23", x.balance(1, 5), -2);
    }

    private static void payBands() {
        Festivalgrounds x = new Festivalgrounds();
        x.act(0, 100, 50, 0, 1 | 2 | 2048);
        x.act(0, 200, 50, 0, 2);
        x.act(0, 210, 50, 0, 4);
        x.ticket(0, 0, 30);
        x.ticket(1, 0, 30);
        x.ticket(2, 0, 6);
        x.setPrice(0, 1);
        x.ticket(3, 0, 30);
        Check.same("24 51 coins to four", x.payBands(), 12);
        Check.same("24 the rest stays", x.balance(0, 0), 3);
        Check.same("24", x.balance(2, 0) + " " + x.balance(2, 1) + " " + x.balance(2, 11) + " "
                + x.balance(2, 2), "12 24 12 0");
        Check.same("24 too little", x.payBands(), 0);
        Check.same("24", x.balance(0, 0), 3);
        x.wish(0, 2, 1);
        x.ticket(4, 0, 30);
        Check.same("24 the lineup is another one", x.payBands(), 1);
        Check.same("24", x.balance(2, 0) + " " + x.balance(2, 1) + " " + x.balance(2, 11) + " "
                + x.balance(2, 2) + " " + x.balance(0, 0), "13 25 13 1 0");
        Check.same("24 nothing is left", x.payBands(), 0);
    }

    private static void nothingToPay() {
        Festivalgrounds x = new Festivalgrounds();
        x.ticket(0, 0, 30);
        Check.same("24 no acts", x.payBands(), 0);
        Check.same("24", x.balance(0, 0), 20);
        x.act(0, 100, 50, 0, 1);
        Check.same("24 one act", x.payBands(), 20);
        x.refund(0, 0);
        Check.same("24 below 0", x.balance(0, 0), -18);
        Check.same("24 below 0", x.payBands(), 0);
        Check.same("24 below 0", x.balance(0, 0) + " " + x.balance(2, 0), "-18 20");
    }

    private static void balance() {
        Festivalgrounds x = new Festivalgrounds();
        x.ticket(11, 0, 30);
        Check.same("54", x.balance(0, 0), 20);
        Check.same("54", x.balance(1, 11), -20);
        Check.same("54", x.balance(2, 11), 0);
        Check.illegalArgument("54", x, () -> x.balance(-1, 99));
        Check.illegalArgument("54", x, () -> x.balance(3, 99));
        Check.illegalArgument("54", x, () -> x.balance(0, 1));
        Check.illegalArgument("54", x, () -> x.balance(0, -1));
        Check.outOfBounds("54", x, () -> x.balance(1, 12));
        Check.outOfBounds("54", x, () -> x.balance(1, -1));
        Check.outOfBounds("54", x, () -> x.balance(2, 12));
        Check.outOfBounds("54", x, () -> x.balance(2, -1));
    }

    private static void loseAndFind() {
        Festivalgrounds x = new Festivalgrounds();
        Check.noSuchElement("26 nothing is lost", x, () -> x.find(-1));
        Check.same("25", x.lose(99, 3), 1);
        Check.same("25", x.lose(0, 2), 2);
        Check.same("25", x.lose(50, 3), 3);
        Check.same("25 in place of before", x.lose(0, 3), 3);
        Check.same("55", x.lost(), 3);
        Check.noSuchElement("26 moved away", x, () -> x.find(2));
        Check.illegalArgument("25", x, () -> x.lose(100, 0));
        Check.illegalArgument("25", x, () -> x.lose(-1, 0));
        Check.outOfBounds("25", x, () -> x.lose(100, 4));
        Check.outOfBounds("25 no stage", x, () -> x.lose(5, -1));
        Check.outOfBounds("26", x, () -> x.find(4));
        Check.outOfBounds("26", x, () -> x.find(-2));
        x.lose(70, 1);
        Check.same("26 at a stage", x.find(1), 70);
        Check.same("26 the least number", x.find(3), 0);
        x.lose(60, 0);
        Check.same("26 any stage", x.find(-1), 50);
        Check.same("26 any stage", x.find(-1), 60);
        Check.same("26", x.find(3), 99);
        Check.same("55", x.lost(), 0);
        Check.same("25 lost again", x.lose(99, 0), 1);
    }
}
