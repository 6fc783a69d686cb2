/** The edges of promises 15 to 18 and 47 to 50: helpers and power by the hour. */
public final class HourEdgeTests {
    private static final String I = Edge.I;
    private static final String A = Edge.A;
    private static final String N = Edge.N;

    public static void main(String[] args) {
        needsAndShifts();
        numbersOfHelpers();
        helpersOfOneHour();
        helpersAtTheEndOfAShift();
        lastShiftOfTheDay();
        mostHelpers();
        proofOfOneHour();
        proofKeepsHoursApart();
        proofOfSeveral();
        proofAtTheEndOfTheDay();
        proofAtTheBeginOfTheDay();
        loadNumbers();
        loadsOfHours();
        generatorNumbers();
        powerEnough();
        startsAtTheHourNothing();
        cheapestOfSeveral();
        withoutAPlan();
        dearestPlan();
        Check.end("HourEdgeTests");
    }

    private static void needsAndShifts() {
        Edge.range("15 hour: 0 to 23", Edge.FULL, 0, 23, I, (x, n) -> x.setNeed(n, 1));
        for (int i = 0; i < 24; i += 23) {
            int hour = i;
            Edge.keeps("15 many: 0 to 9", Edge.FULL, 0, 9, (x, n) -> x.setNeed(hour, n),
                    x -> x.setNeed(hour, 3));
        }
        Edge.keeps("16 hours: 2 to 10", Edge.FULL, 2, 10, (x, n) -> x.setShift(n),
                x -> x.setShift(5));
        for (int i = 0; i < 24; i++) {
            int hour = i;
            Edge.answers("15 each hour of its own", x -> x.setNeed(hour, 9),
                    x -> x.setNeed((hour + 1) % 24, 0) + " " + x.setNeed(hour, 0), "0 9");
        }
    }

    private static void numbersOfHelpers() {
        Edge.range("47 hour: 0 to 23, or NONE", Edge.FULL, -1, 23, I, (x, n) -> x.helpers(n));
        for (int i = -1; i < 24; i++) {
            int hour = i;
            Edge.answers("47 none are needed", Edge.NEW, x -> x.helpers(hour), 0);
        }
        Edge.answers("47 NONE for all", x -> {
            x.setNeed(0, 9);
            x.setNeed(23, 9);
        }, x -> x.helpers(Festivalgrounds.NONE), 18);
    }

    private static void helpersOfOneHour() {
        for (int i = 2; i <= 10; i++) {
            int shift = i;
            for (int j = 0; j < 24; j++) {
                int hour = j;
                Edge.Steps one = x -> {
                    x.setShift(shift);
                    x.setNeed(hour, 4);
                };
                int start = Math.min(hour, 24 - shift);
                Edge.answers("47 begin there, or in the last shift", one,
                        x -> x.helpers(start), 4);
                Edge.answers("47 nowhere else", one, x -> x.helpers(-1), 4);
                Edge.answers("48 the hour itself", one, x -> x.proof(), 1 << hour);
                Edge.answers("59 as many as the proof needs", one, x -> x.errors(), 0);
            }
        }
    }

    private static void helpersAtTheEndOfAShift() {
        for (int i = 2; i <= 10; i++) {
            int shift = i;
            Edge.Steps last = x -> {
                x.setShift(shift);
                x.setNeed(3, 2);
                x.setNeed(3 + shift - 1, 5);
            };
            Edge.answers("47 the last hour of a shift has its helpers", last,
                    x -> x.helpers(3) + " " + x.helpers(3 + shift - 1) + " " + x.helpers(-1),
                    "2 3 5");
            Edge.Steps behind = x -> {
                x.setShift(shift);
                x.setNeed(3, 2);
                x.setNeed(3 + shift, 5);
            };
            Edge.answers("47 the hour behind a shift has none of its helpers", behind,
                    x -> x.helpers(3) + " " + x.helpers(3 + shift) + " " + x.helpers(-1),
                    "2 5 7");
            Edge.Steps enough = x -> {
                x.setShift(shift);
                x.setNeed(3, 5);
                x.setNeed(4, 5);
            };
            Edge.answers("47 an hour that lacks none", enough,
                    x -> x.helpers(3) + " " + x.helpers(4), "5 0");
            Edge.Steps more = x -> {
                x.setShift(shift);
                x.setNeed(3, 5);
                x.setNeed(4, 6);
            };
            Edge.answers("47 an hour that lacks one", more,
                    x -> x.helpers(3) + " " + x.helpers(4), "5 1");
        }
    }

    private static void lastShiftOfTheDay() {
        for (int i = 2; i <= 10; i++) {
            int shift = i;
            int last = 24 - shift;
            Edge.Steps both = x -> {
                x.setShift(shift);
                x.setNeed(last, 1);
                x.setNeed(23, 3);
            };
            Edge.answers("47 the last shift has the hour 23", both, x -> x.helpers(last), 3);
            Edge.answers("47 all of them", both, x -> x.helpers(-1), 3);
            Edge.Steps ahead = x -> {
                x.setShift(shift);
                x.setNeed(last - 1, 1);
                x.setNeed(23, 3);
            };
            Edge.answers("47 an hour earlier it is no last shift", ahead,
                    x -> x.helpers(last - 1) + " " + x.helpers(last), "1 3");
            Edge.answers("48 both hours are in the proof", ahead, x -> x.proof(),
                    1 << last - 1 | 1 << 23);
        }
        Edge.answers("47 several hours fill the last shift", x -> {
            x.setNeed(17, 1);
            x.setNeed(18, 2);
            x.setNeed(23, 4);
        }, x -> x.helpers(16) + " " + x.helpers(17) + " " + x.helpers(-1), "4 0 4");
    }

    private static void mostHelpers() {
        Edge.Steps all = x -> {
            for (int hour = 0; hour < 24; hour++) {
                x.setNeed(hour, 9);
            }
        };
        int[][] rows = {{2, 108}, {3, 72}, {5, 45}, {8, 27}, {9, 27}, {10, 27}};
        for (int[] row : rows) {
            Edge.answers("47 all hours need 9, in shifts of " + row[0],
                    Edge.behind(all, x -> x.setShift(row[0])), x -> x.helpers(-1), row[1]);
        }
        Edge.answers("48 twelve hours of shifts of 2", Edge.behind(all, x -> x.setShift(2)),
                x -> x.proof(), 0b010101010101010101010101);
        Edge.answers("48 three hours of shifts of 10", Edge.behind(all, x -> x.setShift(10)),
                x -> x.proof(), 1 | 1 << 10 | 1 << 20);
    }

    private static void proofOfOneHour() {
        Edge.answers("48 without needs", Edge.NEW, x -> x.proof(), 0);
        Edge.answers("48 hours that need none are in no proof", x -> {
            x.setNeed(5, 1);
            x.setNeed(5, 0);
        }, x -> x.proof(), 0);
        Edge.answers("48 hours that need none are in no proof, ahead of others",
                x -> x.setNeed(23, 1), x -> x.proof(), 1 << 23);
    }

    private static void proofKeepsHoursApart() {
        for (int i = 2; i <= 10; i++) {
            int shift = i;
            Edge.Steps one = x -> {
                x.setShift(shift);
                x.setNeed(2, 3);
                x.setNeed(2 + shift - 1, 3);
            };
            Edge.answers("48 two that lie in one shift", one, x -> x.proof(), 1 << 2);
            Edge.Steps two = x -> {
                x.setShift(shift);
                x.setNeed(2, 3);
                x.setNeed(2 + shift, 3);
            };
            Edge.answers("48 two that lie in no shift", two, x -> x.proof(),
                    1 << 2 | 1 << 2 + shift);
            Edge.Steps end = x -> {
                x.setShift(shift);
                x.setNeed(23, 3);
                x.setNeed(23 - shift + 1, 3);
            };
            Edge.answers("48 two that lie in the last shift", end, x -> x.proof(),
                    1 << 23 - shift + 1);
        }
    }

    private static void proofOfSeveral() {
        Edge.Steps three = x -> {
            x.setShift(4);
            x.setNeed(2, 2);
            x.setNeed(5, 4);
            x.setNeed(8, 2);
        };
        Edge.answers("48 one needs as many as two: the least hour", three, x -> x.proof(),
                1 << 2 | 1 << 8);
        Edge.answers("48 one needs more than two", Edge.behind(three, x -> x.setNeed(5, 5)),
                x -> x.proof(), 1 << 5);
        Edge.answers("48 of several the least second hour", Edge.behind(three, x -> {
            x.setNeed(5, 0);
            x.setNeed(9, 2);
            x.setNeed(10, 2);
        }), x -> x.proof(), 1 << 2 | 1 << 8);
        Edge.answers("48 a later hour needs more", Edge.behind(three, x -> {
            x.setNeed(9, 3);
            x.setNeed(10, 2);
        }), x -> x.proof(), 1 << 5 | 1 << 9);
    }

    private static void proofAtTheEndOfTheDay() {
        for (int i = 3; i <= 10; i++) {
            int shift = i;
            Edge.Steps last = x -> {
                x.setShift(shift);
                x.setNeed(21, 4);
                x.setNeed(22, 3);
                x.setNeed(23, 5);
            };
            Edge.answers("48 the last hour needs the most", last, x -> x.proof(), 1 << 23);
            Edge.answers("48 the last hour needs as many as the first of them",
                    Edge.behind(last, x -> x.setNeed(23, 4)), x -> x.proof(), 1 << 21);
            Edge.answers("48 the last hour but one needs the most",
                    Edge.behind(last, x -> x.setNeed(22, 6)), x -> x.proof(), 1 << 22);
        }
        Edge.answers("48 the last hours in shifts of 2", x -> {
            x.setShift(2);
            x.setNeed(21, 4);
            x.setNeed(22, 9);
            x.setNeed(23, 5);
        }, x -> x.proof(), 1 << 21 | 1 << 23);
        Edge.answers("48 the last hours in shifts of 2, the middle one needs as many", x -> {
            x.setShift(2);
            x.setNeed(21, 4);
            x.setNeed(22, 9);
            x.setNeed(23, 4);
        }, x -> x.proof(), 1 << 22);
    }

    private static void proofAtTheBeginOfTheDay() {
        for (int i = 2; i <= 10; i++) {
            int shift = i;
            Edge.Steps first = x -> {
                x.setShift(shift);
                x.setNeed(0, 3);
                x.setNeed(1, 4);
            };
            Edge.answers("48 the hour 1 needs more", first, x -> x.proof(), 1 << 1);
            Edge.answers("48 the hour 0 needs as many",
                    Edge.behind(first, x -> x.setNeed(0, 4)), x -> x.proof(), 1);
        }
    }

    private static void loadNumbers() {
        Edge.refusesOutside("17 hour: 0 to 23", Edge.FULL, 0, 23, I, (x, n) -> x.setLoad(n, 23, 1));
        Edge.refusesOutside("17 behind: to 23", Edge.FULL, 0, 23, I,
                (x, n) -> x.setLoad(0, n, 1));
        Edge.range("17 hour: 0 to 23", Edge.NEW, 0, 23, I, (x, n) -> x.setLoad(n, 23, 1));
        Edge.range("17 behind: hour to 23", Edge.NEW, 0, 23, I, (x, n) -> x.setLoad(0, n, 1));
        for (int i = 1; i < 24; i++) {
            int hour = i;
            Edge.refuses("17 behind is less than hour by one", Edge.FULL,
                    x -> x.setLoad(hour, hour - 1, 1), A);
            Edge.refuses("17 behind is 0, less than hour", Edge.FULL, x -> x.setLoad(hour, 0, 1),
                    A);
            Edge.answers("17 behind is hour", Edge.NEW, x -> x.setLoad(hour, hour, 1), 0);
        }
        Edge.keeps("17 power: 0 to 500", Edge.NEW, 0, 500, (x, n) -> x.setLoad(7, 8, n),
                x -> x.setLoad(7, 7, 1));
        Edge.refusesOutside("17 power: 0 to 500", Edge.FULL, 0, 500, A,
                (x, n) -> x.setLoad(7, 8, n));
    }

    private static void loadsOfHours() {
        Edge.Steps some = x -> x.setLoad(3, 6, 50);
        int[] due = {0, 0, 0, 50, 50, 50, 50, 0, 0};
        for (int i = 0; i < due.length; i++) {
            int hour = i;
            Edge.answers("17 from the first one to the last one: " + hour, some,
                    x -> x.setLoad(hour, hour, 1), due[hour]);
        }
        Edge.answers("17 how much the first one needed, not the others", some,
                x -> x.setLoad(2, 6, 1), 0);
        Edge.answers("17 all hours", x -> x.setLoad(0, 23, 7),
                x -> x.setLoad(0, 0, 1) + " " + x.setLoad(23, 23, 1), "7 7");
    }

    private static void generatorNumbers() {
        Edge.range("18 generator: 0 to 3", Edge.FULL, 0, 3, I,
                (x, n) -> x.setGenerator(n, 1, 1, 1));
        for (int i = 0; i < 4; i++) {
            int generator = i;
            Edge.keeps("18 power: 0 to 200", Edge.NEW, 0, 200,
                    (x, n) -> x.setGenerator(generator, n, 1, 1),
                    x -> x.setGenerator(generator, 3, 3, 3));
            Edge.answers("18 another one stays", x -> x.setGenerator(generator, 200, 1, 1),
                    x -> x.setGenerator((generator + 1) % 4, 3, 3, 3), 0);
        }
        Edge.refusesOutside("18 power: 0 to 200", Edge.FULL, 0, 200, A,
                (x, n) -> x.setGenerator(1, n, 1, 1));
        Edge.Steps needed = x -> x.setLoad(23, 23, 1);
        Edge.keeps("18 start: 0 to 100", needed, 0, 100, (x, n) -> x.setGenerator(2, 1, n, 0),
                x -> x.cost());
        Edge.refusesOutside("18 start: 0 to 100", Edge.FULL, 0, 100, A,
                (x, n) -> x.setGenerator(1, 1, n, 1));
        Edge.keeps("18 hour: 0 to 100", needed, 0, 100, (x, n) -> x.setGenerator(2, 1, 0, n),
                x -> x.cost());
        Edge.refusesOutside("18 hour: 0 to 100", Edge.FULL, 0, 100, A,
                (x, n) -> x.setGenerator(1, 1, 1, n));
    }

    private static void powerEnough() {
        for (int i = 0; i < 24; i++) {
            int hour = i;
            Edge.Steps exact = x -> {
                x.setGenerator(0, 100, 7, 5);
                x.setLoad(hour, hour, 100);
            };
            Edge.answers("49 as much as is needed is enough", exact, x -> x.cost(), 12);
            Edge.answers("50 it is on in this hour", exact, x -> x.isOn(hour), 1);
            Edge.answers("50 and off in others", exact, x -> x.isOn((hour + 1) % 24), 0);
            Edge.Steps less = Edge.behind(exact, x -> x.setLoad(hour, hour, 101));
            Edge.answers("49 one less than is needed is no plan", less, x -> x.cost(), -1);
            Edge.refuses("50 one less than is needed is no plan", less, x -> x.isOn(hour), N);
        }
        Edge.answers("49 no power is needed", Edge.NEW, x -> x.cost(), 0);
        Edge.answers("50 no power is needed", x -> x.setGenerator(0, 100, 0, 0),
                x -> x.isOn(0), 0);
        Edge.Steps both = x -> {
            x.setGenerator(0, 100, 7, 5);
            x.setGenerator(3, 60, 9, 4);
            x.setLoad(5, 5, 160);
        };
        Edge.answers("49 together they are enough", both, x -> x.cost(), 25);
        Edge.answers("50 together they are enough", both, x -> x.isOn(5), 9);
        Edge.answers("49 together they lack one", Edge.behind(both, x -> x.setLoad(5, 5, 161)),
                x -> x.cost(), -1);
    }

    private static void startsAtTheHourNothing() {
        Edge.answers("49 all are off ahead of the hour 0", x -> {
            x.setGenerator(0, 100, 100, 1);
            x.setLoad(0, 0, 1);
        }, x -> x.cost(), 101);
        Edge.answers("49 on from the hour 23 it is not on at the hour 0", x -> {
            x.setGenerator(0, 100, 100, 1);
            x.setLoad(0, 0, 1);
            x.setLoad(23, 23, 1);
        }, x -> x.cost(), 124);
        Edge.answers("49 on all the day it starts once", x -> {
            x.setGenerator(0, 100, 100, 1);
            x.setLoad(0, 23, 1);
        }, x -> x.cost(), 124);
        Edge.Steps gap = x -> {
            x.setGenerator(0, 100, 3, 3);
            x.setLoad(4, 4, 1);
            x.setLoad(6, 6, 1);
        };
        Edge.answers("49 to stay on costs as much as a start", gap, x -> x.cost(), 12);
        Edge.answers("50 then the least number: it goes off", gap, x -> x.isOn(5), 0);
        Edge.Steps dear = Edge.behind(gap, x -> x.setGenerator(0, 100, 4, 3));
        Edge.answers("49 a start that costs more", dear, x -> x.cost(), 13);
        Edge.answers("50 it stays on", dear, x -> x.isOn(5), 1);
    }

    private static void cheapestOfSeveral() {
        Edge.Steps same = x -> {
            for (int generator = 0; generator < 4; generator++) {
                x.setGenerator(generator, 100, 5, 5);
            }
            x.setLoad(8, 9, 100);
        };
        Edge.answers("50 of several the least number", same, x -> x.isOn(8) + " " + x.isOn(9),
                "1 1");
        Edge.answers("50 the cheaper one by one coin of the hour",
                Edge.behind(same, x -> x.setGenerator(3, 100, 5, 4)), x -> x.isOn(8), 8);
        Edge.answers("50 the cheaper one by one coin of the start",
                Edge.behind(same, x -> x.setGenerator(2, 100, 4, 5)), x -> x.isOn(9), 4);
        Edge.answers("50 as cheap by a start and by hours",
                Edge.behind(same, x -> x.setGenerator(0, 100, 7, 4)), x -> x.isOn(8), 1);
        Edge.answers("50 the least number at the hour 0 counts first", x -> {
            x.setGenerator(0, 10, 0, 2);
            x.setGenerator(1, 10, 2, 1);
            x.setGenerator(2, 20, 9, 3);
            x.setLoad(0, 1, 10);
        }, x -> x.isOn(0) + " " + x.isOn(1), "1 1");
        // On at the hour 0 already, it would cost as much, but be a greater number there.
        Edge.answers("50 not earlier than it must be", x -> {
            x.setGenerator(0, 10, 6, 0);
            x.setLoad(1, 1, 10);
        }, x -> x.isOn(0) + " " + x.isOn(1) + " " + x.isOn(2), "0 1 0");
    }

    private static void withoutAPlan() {
        for (int i = 0; i < 24; i++) {
            int hour = i;
            Edge.Steps dark = x -> x.setLoad(hour, hour, 1);
            Edge.answers("49 NONE if there is no plan", dark, x -> x.cost(), -1);
            Edge.refuses("50 no plan for any hour", dark, x -> x.isOn(23 - hour), N);
        }
        Edge.answers("49 a plan that costs nothing", x -> {
            x.setGenerator(0, 1, 0, 0);
            x.setLoad(0, 23, 1);
        }, x -> x.cost(), 0);
        Edge.range("50 hour: 0 to 23", Edge.FULL, 0, 23, I, (x, n) -> x.isOn(n));
    }

    private static void dearestPlan() {
        Edge.Steps dear = x -> {
            for (int generator = 0; generator < 4; generator++) {
                x.setGenerator(generator, 125, 100, 100);
            }
            x.setLoad(0, 23, 500);
        };
        Edge.answers("49 all on, all the day", dear, x -> x.cost(), 24 * 400 + 400);
        for (int i = 0; i < 24; i++) {
            int hour = i;
            Edge.answers("50 all on, all the day", dear, x -> x.isOn(hour), 15);
        }
        Edge.answers("49 one power less", Edge.behind(dear,
                x -> x.setGenerator(3, 124, 100, 100)), x -> x.cost(), -1);
        // Hours without load in between cost 400 each, and so does a start of all four.
        Edge.Steps every = Edge.behind(dear, x -> {
            for (int hour = 1; hour < 24; hour += 2) {
                x.setLoad(hour, hour, 0);
            }
        });
        Edge.answers("49 each second hour", every, x -> x.cost(), 12 * 800);
        Edge.answers("50 off in between", every, x -> x.isOn(1) + " " + x.isOn(22), "0 15");
    }
}
