/** The edges of promises 20 to 26 and 53 to 55: tickets, pay, balances, lost things. */
public final class TicketEdgeTests {
    private static final String I = Edge.I;
    private static final String A = Edge.A;
    private static final String S = Edge.S;
    private static final String N = Edge.N;

    public static void main(String[] args) {
        numbers();
        prices();
        ages();
        roundedHalfUpward();
        ticketOfItsOwn();
        oneTicketForADay();
        refundRoundedDown();
        refundWithoutATicket();
        resell();
        resellRefused();
        resoldAndGivenBack();
        payAboveNothing();
        payRoundedDown();
        payOfSeveralActs();
        balances();
        things();
        foundThings();
        foundAtAStage();
        Check.end("TicketEdgeTests");
    }

    private static void numbers() {
        Edge.range("20 day: 0 to 3", Edge.FULL, 0, 3, I, (x, n) -> x.setPrice(n, 1));
        Edge.range("21 visitor: 0 to 11", Edge.NEW, 0, 11, I, (x, n) -> x.ticket(n, 0, 30));
        Edge.refusesOutside("21 visitor: 0 to 11", Edge.FULL, 0, 11, I,
                (x, n) -> x.ticket(n, 0, 30));
        Edge.range("21 day: 0 to 3", Edge.FULL, 0, 3, I, (x, n) -> x.ticket(11, n, 30));
        Edge.range("21 age: 0 to 120", Edge.FULL, 0, 120, A, (x, n) -> x.ticket(11, 0, n));
        Edge.refusesOutside("22 visitor: 0 to 11", Edge.FULL, 0, 11, I, (x, n) -> x.refund(n, 0));
        Edge.refusesOutside("22 day: 0 to 3", Edge.FULL, 0, 3, I, (x, n) -> x.refund(0, n));
        Edge.refusesOutside("23 visitor: 0 to 11", Edge.FULL, 0, 11, I,
                (x, n) -> x.resell(n, 7, 0));
        Edge.refusesOutside("23 other: 0 to 11", Edge.FULL, 0, 11, I,
                (x, n) -> x.resell(0, n, 0));
        Edge.refusesOutside("23 day: 0 to 3", Edge.FULL, 0, 3, I, (x, n) -> x.resell(0, 7, n));
        Edge.range("53 visitor: 0 to 11", Edge.FULL, 0, 11, I, (x, n) -> x.ticketAt(n, 0));
        Edge.range("53 day: 0 to 3", Edge.FULL, 0, 3, I, (x, n) -> x.ticketAt(0, n));
        Edge.range("25 stage: 0 to 3", Edge.FULL, 0, 3, I, (x, n) -> x.lose(1, n));
        Edge.range("25 thing: 0 to 99", Edge.FULL, 0, 99, A, (x, n) -> x.lose(n, 1));
    }

    private static void prices() {
        for (int i = 0; i < 4; i++) {
            int day = i;
            Edge.keeps("20 coins: 0 to 500", Edge.NEW, 0, 500, (x, n) -> x.setPrice(day, n),
                    x -> x.setPrice(day, 1));
            Edge.answers("20 another day stays", x -> x.setPrice(day, 500),
                    x -> x.setPrice((day + 1) % 4, 1), 20);
            Edge.answers("20 for tickets that are bought from then on", x -> {
                x.ticket(0, day, 30);
                x.setPrice(day, 500);
                x.ticket(1, day, 30);
            }, x -> x.ticketAt(0, day) + " " + x.ticketAt(1, day), "20 500");
        }
        Edge.refusesOutside("20 coins: 0 to 500", Edge.FULL, 0, 500, A,
                (x, n) -> x.setPrice(0, n));
    }

    private static void ages() {
        int[][] rows = {{0, 0}, {1, 0}, {5, 0}, {6, 50}, {7, 50}, {12, 50}, {13, 50}, {14, 100},
            {15, 100}, {63, 100}, {64, 100}, {65, 80}, {66, 80}, {119, 80}, {120, 80}};
        for (int[] row : rows) {
            Edge.answers("21 at the age of " + row[0], x -> x.setPrice(2, 100),
                    x -> x.ticket(0, 2, row[0]), row[1]);
        }
    }

    private static void roundedHalfUpward() {
        int[][] half = {{0, 0}, {1, 1}, {2, 1}, {3, 2}, {4, 2}, {5, 3}, {499, 250}, {500, 250}};
        for (int[] row : half) {
            Edge.answers("21 half of " + row[0] + ", a half upward", x -> x.setPrice(2, row[0]),
                    x -> x.ticket(0, 2, 13), row[1]);
        }
        int[][] fifths = {{0, 0}, {1, 1}, {2, 2}, {3, 2}, {4, 3}, {5, 4}, {6, 5}, {7, 6}, {8, 6},
            {9, 7}, {496, 397}, {497, 398}, {498, 398}, {499, 399}, {500, 400}};
        for (int[] row : fifths) {
            Edge.answers("21 four fifths of " + row[0] + ", rounded", x -> x.setPrice(2, row[0]),
                    x -> x.ticket(0, 2, 65), row[1]);
        }
        int[] whole = {0, 1, 499, 500};
        for (int i = 0; i < whole.length; i++) {
            int price = whole[i];
            Edge.answers("21 the price " + price, x -> x.setPrice(2, price),
                    x -> x.ticket(0, 2, 64), price);
            Edge.answers("21 nothing under 6, of " + price, x -> x.setPrice(2, price),
                    x -> x.ticket(0, 2, 5), 0);
        }
    }

    private static void ticketOfItsOwn() {
        for (int i = 0; i < 48; i++) {
            int visitor = i / 4;
            int day = i % 4;
            Edge.Steps one = x -> x.ticket(visitor, day, 30);
            Edge.answers("53 NONE without a ticket", Edge.NEW, x -> x.ticketAt(visitor, day), -1);
            Edge.answers("53 what was paid", one, x -> x.ticketAt(visitor, day), 20);
            Edge.answers("53 NONE for another day", one,
                    x -> x.ticketAt(visitor, (day + 1) % 4), -1);
            Edge.answers("53 NONE for another visitor", one,
                    x -> x.ticketAt((visitor + 1) % 12, day), -1);
            Edge.answers("21 who buys pays this to the house", one,
                    x -> x.balance(1, visitor) + " " + x.balance(0, 0), "-20 20");
        }
        Edge.answers("53 0 for a ticket that cost nothing", x -> x.ticket(3, 3, 0),
                x -> x.ticketAt(3, 3), 0);
        Edge.answers("21 all tickets, each for the most", x -> {
            for (int day = 0; day < 4; day++) {
                x.setPrice(day, 500);
            }
            for (int place = 0; place < 48; place++) {
                x.ticket(place / 4, place % 4, 30);
            }
        }, x -> x.balance(0, 0) + " " + x.balance(1, 0) + " " + x.balance(1, 11),
                "24000 -2000 -2000");
    }

    private static void oneTicketForADay() {
        Edge.refuses("21 the visitor has a ticket for this day", Edge.FULL,
                x -> x.ticket(0, 0, 30), S);
        Edge.Steps free = Edge.behind(Edge.FULL, x -> x.ticket(9, 1, 3));
        Edge.refuses("21 also if it cost nothing", free, x -> x.ticket(9, 1, 30), S);
        Edge.answers("21 for another day there is none yet", free, x -> x.ticket(9, 2, 30), 20);
        Edge.answers("21 not any more behind refund()", Edge.behind(free, x -> x.refund(9, 1)),
                x -> x.ticket(9, 1, 30), 33);
        Edge.answers("21 not any more when it is sold", Edge.behind(free, x -> x.resell(9, 8, 1)),
                x -> x.ticket(9, 1, 30), 33);
        Edge.refuses("21 but who bought it has one", Edge.behind(free, x -> x.resell(9, 8, 1)),
                x -> x.ticket(8, 1, 30), S);
    }

    private static void refundRoundedDown() {
        int[][] rows = {{0, 0}, {1, 0}, {2, 1}, {9, 8}, {10, 9}, {11, 9}, {19, 17}, {20, 18},
            {498, 448}, {499, 449}, {500, 450}};
        for (int[] row : rows) {
            Edge.Steps one = x -> {
                x.setPrice(0, row[0]);
                x.ticket(4, 0, 30);
            };
            Edge.answers("22 nine tenths of " + row[0] + ", rounded down", one,
                    x -> x.refund(4, 0), row[1]);
            Edge.answers("22 they go back", Edge.behind(one, x -> x.refund(4, 0)),
                    x -> x.balance(1, 4) + " " + x.balance(0, 0),
                    row[1] - row[0] + " " + (row[0] - row[1]));
            Edge.answers("22 it goes away", Edge.behind(one, x -> x.refund(4, 0)),
                    x -> x.ticketAt(4, 0), -1);
        }
        Edge.answers("22 of what was paid, not of the price", x -> {
            x.ticket(4, 0, 30);
            x.setPrice(0, 500);
        }, x -> x.refund(4, 0), 18);
    }

    private static void refundWithoutATicket() {
        Edge.refuses("22 no ticket at all", Edge.NEW, x -> x.refund(0, 0), N);
        Edge.refuses("22 no ticket for this day", Edge.FULL, x -> x.refund(0, 1), N);
        Edge.refuses("22 another visitor has one", Edge.FULL, x -> x.refund(7, 0), N);
        Edge.refuses("22 it was given back", Edge.behind(Edge.FULL, x -> x.refund(0, 0)),
                x -> x.refund(0, 0), N);
        Edge.refuses("22 it was sold", Edge.behind(Edge.FULL, x -> x.resell(0, 7, 0)),
                x -> x.refund(0, 0), N);
        Edge.answers("22 a ticket that cost nothing is one", x -> x.ticket(0, 0, 0),
                x -> x.refund(0, 0), 0);
        Edge.refuses("22 a ticket that cost nothing goes away, too", x -> {
            x.ticket(0, 0, 0);
            x.refund(0, 0);
        }, x -> x.refund(0, 0), N);
    }

    private static void resell() {
        for (int i = 0; i < 12; i++) {
            int visitor = i;
            int other = (i + 11) % 12;
            Edge.Steps sold = x -> {
                x.ticket(visitor, 3, 30);
                x.resell(visitor, other, 3);
            };
            Edge.answers("23 what the other one pays", x -> x.ticket(visitor, 3, 30),
                    x -> x.resell(visitor, other, 3), 20);
            Edge.answers("23 it goes to that one", sold,
                    x -> x.ticketAt(visitor, 3) + " " + x.ticketAt(other, 3), "-1 20");
            Edge.answers("23 who pays to the first one", sold,
                    x -> x.balance(1, visitor) + " " + x.balance(1, other) + " "
                            + x.balance(0, 0), "0 -20 20");
        }
        Edge.answers("23 a ticket that cost nothing", x -> x.ticket(0, 0, 5),
                x -> x.resell(0, 1, 0) + " " + x.ticketAt(1, 0), "0 0");
        Edge.answers("23 what was paid, not the price", x -> {
            x.ticket(0, 0, 65);
            x.setPrice(0, 500);
        }, x -> x.resell(0, 1, 0), 16);
        Edge.answers("23 the other one has one for another day", x -> {
            x.ticket(0, 0, 30);
            x.ticket(1, 1, 30);
        }, x -> x.resell(0, 1, 0), 20);
    }

    private static void resellRefused() {
        Edge.refuses("23 no ticket at all", Edge.NEW, x -> x.resell(0, 1, 0), N);
        Edge.refuses("23 no ticket for this day", Edge.FULL, x -> x.resell(0, 7, 1), N);
        Edge.refuses("23 no ticket for this day, but the other one has one", Edge.FULL,
                x -> x.resell(7, 0, 0), N);
        Edge.refuses("23 no ticket, both are the same", Edge.FULL, x -> x.resell(7, 7, 0), N);
        Edge.refuses("23 the other one has a ticket for this day", Edge.FULL,
                x -> x.resell(0, 1, 0), S);
        Edge.refuses("23 also if both are the same", Edge.FULL, x -> x.resell(0, 0, 0), S);
        Edge.refuses("23 the other one has one that cost nothing", x -> {
            x.ticket(0, 0, 30);
            x.ticket(1, 0, 0);
        }, x -> x.resell(0, 1, 0), S);
        Edge.refuses("23 it was sold already", Edge.behind(Edge.FULL, x -> x.resell(0, 7, 0)),
                x -> x.resell(0, 8, 0), N);
    }

    private static void resoldAndGivenBack() {
        Edge.Steps twice = x -> {
            x.ticket(0, 0, 30);
            x.resell(0, 1, 0);
            x.setPrice(0, 500);
            x.resell(1, 2, 0);
        };
        Edge.answers("23 sold twice", twice, x -> x.ticketAt(2, 0) + " " + x.balance(1, 0) + " "
                + x.balance(1, 1) + " " + x.balance(1, 2), "20 0 0 -20");
        Edge.answers("23 given back later, what was paid to the house counts", twice,
                x -> x.refund(2, 0), 18);
        Edge.answers("23 sold back to the first one", twice, x -> x.resell(2, 0, 0), 20);
    }

    /** One act with one member, and a balance of the house. */
    private static Edge.Steps house(int coins, int members) {
        return x -> {
            x.act(0, 100, 50, 0, members);
            x.setPrice(0, coins);
            x.ticket(5, 0, 30);
        };
    }

    private static void payAboveNothing() {
        Edge.answers("24 a new festival", Edge.NEW, x -> x.payBands(), 0);
        Edge.answers("24 without acts", x -> x.ticket(0, 0, 30),
                x -> x.payBands() + " " + x.balance(0, 0), "0 20");
        Edge.answers("24 a balance of 0", house(0, 1), x -> x.payBands(), 0);
        Edge.answers("24 a balance of 1", house(1, 1),
                x -> x.payBands() + " " + x.balance(2, 0) + " " + x.balance(0, 0), "1 1 0");
        Edge.answers("24 a balance below 0 by one", Edge.behind(house(2, 1), x -> {
            x.payBands();
            x.refund(5, 0);
        }), x -> x.balance(0, 0) + " " + x.payBands() + " " + x.balance(2, 0), "-1 0 2");
        Edge.answers("24 a balance below 0, as much as there are members",
                Edge.behind(house(36, 0b111), x -> {
                    x.payBands();
                    x.refund(5, 0);
                }), x -> x.balance(0, 0) + " " + x.payBands() + " " + x.balance(2, 0),
                "-32 0 12");
    }

    private static void payRoundedDown() {
        int[][] rows = {{1, 0, 1}, {2, 0, 2}, {3, 1, 0}, {4, 1, 1}, {5, 1, 2}, {6, 2, 0},
            {500, 166, 2}};
        for (int[] row : rows) {
            Edge.answers("24 " + row[0] + " coins for three: rounded down, the rest stays",
                    house(row[0], 0b100000000011),
                    x -> x.payBands() + " " + x.balance(0, 0) + " " + x.balance(2, 0) + " "
                            + x.balance(2, 1) + " " + x.balance(2, 11) + " " + x.balance(2, 2),
                    row[1] + " " + row[2] + " " + row[1] + " " + row[1] + " " + row[1] + " 0");
        }
        Edge.answers("24 all twelve lack one", house(11, 4095), x -> x.payBands(), 0);
        Edge.answers("24 all twelve get one", house(12, 4095),
                x -> x.payBands() + " " + x.balance(2, 0) + " " + x.balance(2, 11), "1 1 1");
    }

    private static void payOfSeveralActs() {
        Edge.Steps acts = x -> {
            x.act(0, 100, 50, 0, 0b11);
            x.act(0, 200, 50, 0, 0b01);
            x.act(0, 220, 50, 0, 0b100);
            x.ticket(0, 0, 30);
        };
        Edge.answers("24 who is in several acts counts in each one", acts,
                x -> x.payBands() + " " + x.balance(2, 0) + " " + x.balance(2, 1), "6 12 6");
        Edge.answers("24 the rest stays", Edge.behind(acts, x -> x.payBands()),
                x -> x.balance(0, 0), 2);
        Edge.answers("24 acts that are not in the best lineup get nothing",
                Edge.behind(acts, x -> x.payBands()), x -> x.balance(2, 2), 0);
        Edge.answers("24 the best lineup is another one", Edge.behind(acts, x -> {
            x.wish(0, 2, 1);
            x.payBands();
        }), x -> x.balance(2, 0) + " " + x.balance(2, 1) + " " + x.balance(2, 2), "6 6 6");
        Edge.answers("24 sixteen acts of all musicians, 24000 coins", x -> {
            for (int act = 0; act < 16; act++) {
                x.act(act % 4, 100 + 10 * act, 10, 0, 4095);
            }
            for (int day = 0; day < 4; day++) {
                x.setPrice(day, 500);
            }
            for (int place = 0; place < 48; place++) {
                x.ticket(place / 4, place % 4, 30);
            }
        }, x -> x.payBands() + " " + x.balance(2, 11) + " " + x.balance(0, 0), "125 2000 0");
    }

    private static void balances() {
        Edge.refusesOutside("54 kind: 0 to 2", Edge.FULL, 0, 2, A, (x, n) -> x.balance(n, 0));
        Edge.refusesOutside("54 number: 0 for the house", Edge.FULL, 0, 0, A,
                (x, n) -> x.balance(0, n));
        Edge.refuses("54 number: a visitor, but for the house", Edge.FULL, x -> x.balance(0, 11),
                A);
        Edge.range("54 number: 0 to 11, a visitor", Edge.FULL, 0, 11, I,
                (x, n) -> x.balance(1, n));
        Edge.range("54 number: 0 to 11, a musician", Edge.FULL, 0, 11, I,
                (x, n) -> x.balance(2, n));
        for (int i = 0; i < 12; i++) {
            int number = i;
            Edge.answers("54 of a visitor", x -> x.ticket(number, 0, 30),
                    x -> x.balance(1, number) + " " + x.balance(1, (number + 1) % 12) + " "
                            + x.balance(2, number), "-20 0 0");
            Edge.answers("54 of a musician", Edge.behind(house(20, 1 << number),
                    x -> x.payBands()), x -> x.balance(2, number) + " "
                            + x.balance(2, (number + 1) % 12), "20 0");
        }
    }

    private static void things() {
        Edge.answers("55 without things that are lost", Edge.NEW, x -> x.lost(), 0);
        Edge.answers("25 one is lost then", Edge.NEW, x -> x.lose(99, 3), 1);
        Edge.answers("25 the same one again", x -> x.lose(99, 3), x -> x.lose(99, 3), 1);
        Edge.answers("25 in place of where it was lost before", x -> x.lose(0, 3),
                x -> x.lose(0, 0) + " " + x.find(0), "1 0");
        Edge.refuses("25 in place of where it was lost before", x -> {
            x.lose(0, 3);
            x.lose(0, 0);
        }, x -> x.find(3), N);
        Edge.Steps all = x -> {
            for (int thing = 0; thing < 100; thing++) {
                x.lose(thing, thing % 4);
            }
        };
        Edge.answers("25 all 100", all, x -> x.lose(99, 0), 100);
        Edge.answers("55 all 100", all, x -> x.lost(), 100);
        Edge.answers("26 the last one of all 100", Edge.behind(all, x -> {
            for (int i = 0; i < 99; i++) {
                x.find(-1);
            }
        }), x -> x.find(-1) + " " + x.lost(), "99 0");
    }

    private static void foundThings() {
        Edge.range("26 stage: 0 to 3, or NONE", Edge.behind(Edge.FULL, x -> x.lose(60, 3)), -1, 3,
                I, (x, n) -> x.find(n));
        Edge.refuses("26 nothing is lost", Edge.NEW, x -> x.find(-1), N);
        Edge.refuses("26 nothing is lost any more", x -> {
            x.lose(4, 1);
            x.find(1);
        }, x -> x.find(-1), N);
        Edge.answers("26 it is not lost any more", x -> {
            x.lose(4, 1);
            x.find(1);
        }, x -> x.lost(), 0);
        Edge.answers("26 it can be lost again", x -> {
            x.lose(4, 1);
            x.find(1);
        }, x -> x.lose(4, 2) + " " + x.find(2), "1 4");
    }

    private static void foundAtAStage() {
        for (int i = 0; i < 4; i++) {
            int stage = i;
            Edge.refuses("26 no such thing is lost", x -> x.lose(5, (stage + 1) % 4),
                    x -> x.find(stage), N);
            Edge.Steps three = x -> {
                x.lose(5, (stage + 1) % 4);
                x.lose(99, stage);
                x.lose(6, stage);
            };
            Edge.answers("26 the least number of this stage", three, x -> x.find(stage), 6);
            Edge.answers("26 then the next one", Edge.behind(three, x -> x.find(stage)),
                    x -> x.find(stage), 99);
            Edge.answers("26 the least number of any stage", three, x -> x.find(-1), 5);
            Edge.answers("26 the thing 0", Edge.behind(three, x -> x.lose(0, stage)),
                    x -> x.find(stage), 0);
        }
    }
}
