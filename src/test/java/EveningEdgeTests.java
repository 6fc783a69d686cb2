/** The edges of promises 36 to 39 and 56: evenings, prices, listeners, the mean. */
public final class EveningEdgeTests {
    private static final String I = Edge.I;
    private static final String A = Edge.A;
    private static final String N = Edge.N;

    public static void main(String[] args) {
        numbers();
        withoutAnEvening();
        places();
        reachedOnOneStage();
        reachedByWalks();
        daysBegin();
        wishedByMoreThanNothing();
        heaviestOfSeveral();
        price();
        listenersOfAnAct();
        listenersOfBestEvenings();
        listenersAtTheEnds();
        listenersOfALongEvening();
        meanEvening();
        Check.end("EveningEdgeTests");
    }

    private static void numbers() {
        Edge.range("36 visitor: 0 to 11", Edge.FULL, 0, 11, I, (x, n) -> x.evening(n, 0));
        Edge.range("36 day: 0 to 3", Edge.FULL, 0, 3, I, (x, n) -> x.evening(0, n));
        Edge.refusesOutside("37 visitor: 0 to 11", Edge.FULL, 0, 11, I,
                (x, n) -> x.eveningAct(n, 0, 0));
        Edge.refusesOutside("37 day: 0 to 3", Edge.FULL, 0, 3, I, (x, n) -> x.eveningAct(0, n, 0));
        Edge.range("38 visitor: 0 to 11", Edge.FULL, 0, 11, I, (x, n) -> x.price(n, 0));
        Edge.range("39 stage: 0 to 3", Edge.FULL, 0, 3, I, (x, n) -> x.listeners(n, 0));
        Edge.refusesOutside("39 minute: 0 to 5759", Edge.FULL, 0, 5759, A,
                (x, n) -> x.listeners(0, n));
        Edge.range("56 day: 0 to 3", Edge.FULL, 0, 3, I, (x, n) -> x.meanEvening(n));
        for (int i = 0; i < 48; i++) {
            int visitor = i / 4;
            int day = i % 4;
            Edge.Steps wished = x -> {
                x.act(0, 1440 * day + 700, 50, 0, 1);
                x.wish(visitor, 0, 9);
            };
            Edge.answers("36 each visitor and day", wished, x -> x.evening(visitor, day), 9);
            Edge.answers("36 no other visitor", wished, x -> x.evening((visitor + 1) % 12, day), 0);
            Edge.answers("36 no other day", wished, x -> x.evening(visitor, (day + 1) % 4), 0);
            Edge.answers("37 each visitor and day", wished, x -> x.eveningAct(visitor, day, 0), 0);
        }
    }

    private static void withoutAnEvening() {
        Edge.answers("36 0 without acts", Edge.NEW, x -> x.evening(0, 0), 0);
        Edge.Steps unwished = x -> x.act(0, 100, 50, 0, 1);
        Edge.answers("36 0 without wishes", unwished, x -> x.evening(0, 0), 0);
        Edge.answers("36 0 for another one's wishes", Edge.behind(unwished, x -> x.wish(1, 0, 9)),
                x -> x.evening(0, 0), 0);
        Edge.answers("36 0 behind the wish", Edge.behind(unwished, x -> {
            x.wish(0, 0, 9);
            x.wish(0, 0, 0);
        }), x -> x.evening(0, 0), 0);
        Edge.answers("36 0 behind the act", Edge.behind(unwished, x -> {
            x.wish(0, 0, 9);
            x.drop(0);
        }), x -> x.evening(0, 0), 0);
        Edge.refuses("37 no place without acts", Edge.NEW, x -> x.eveningAct(0, 0, 0), N);
        Edge.refuses("37 no place without wishes", unwished, x -> x.eveningAct(0, 0, 0), N);
    }

    /** Sixteen acts of a day, one behind the other. */
    private static final Edge.Steps LONG = x -> {
        for (int act = 0; act < 16; act++) {
            x.act(0, 10 * act, 10, 0, 1);
            x.wish(3, act, 9);
        }
    };

    private static void places() {
        Edge.Steps two = x -> {
            x.act(0, 100, 50, 0, 1);
            x.act(0, 200, 50, 0, 1);
            x.wish(0, 0, 1);
            x.wish(0, 1, 1);
        };
        Edge.answers("37 place: from 0", two, x -> x.eveningAct(0, 0, 0), 0);
        Edge.answers("37 place: the last one", two, x -> x.eveningAct(0, 0, 1), 1);
        int[] wrong = {2, 3, 15, 16, 17, -1, -2, Integer.MAX_VALUE, Integer.MIN_VALUE};
        for (int i = 0; i < wrong.length; i++) {
            int place = wrong[i];
            Edge.refuses("37 it has no place " + place, two, x -> x.eveningAct(0, 0, place), N);
        }
        for (int i = 0; i < 16; i++) {
            int place = i;
            Edge.answers("37 place " + place + " of 16", LONG, x -> x.eveningAct(3, 0, place),
                    place);
        }
        Edge.refuses("37 it has no place 16", LONG, x -> x.eveningAct(3, 0, 16), N);
        Edge.refuses("37 it has no place -1", LONG, x -> x.eveningAct(3, 0, -1), N);
        Edge.answers("36 the heaviest one that can be", LONG, x -> x.evening(3, 0), 16 * 9);
        Edge.answers("38 the greatest price that can be", LONG, x -> x.price(3, 0), 16 * 9);
        Edge.answers("38 the price of the last one", LONG, x -> x.price(3, 15), 9);
    }

    /** Two acts that the visitor 0 wishes by 2 and by 3. */
    private static Edge.Steps two(int stage, int begin, int length, int check) {
        return x -> {
            x.act(0, 600, 60, 0, 1);
            x.act(stage, begin, length, check, 1);
            x.wish(0, 0, 2);
            x.wish(0, 1, 3);
        };
    }

    private static void reachedOnOneStage() {
        Edge.answers("36 begins with the end", two(0, 660, 10, 0), x -> x.evening(0, 0), 5);
        Edge.answers("36 begins a minute ahead of the end", two(0, 659, 10, 0),
                x -> x.evening(0, 0), 3);
        Edge.answers("36 the check does not count", two(0, 660, 10, 60), x -> x.evening(0, 0), 5);
        Edge.answers("36 ends with the begin", two(0, 590, 10, 0), x -> x.evening(0, 0), 5);
        Edge.answers("36 ends a minute behind the begin", two(0, 590, 11, 0),
                x -> x.evening(0, 0), 3);
        Edge.answers("36 members do not count", two(0, 660, 10, 0), x -> x.eveningAct(0, 0, 1), 1);
    }

    private static void reachedByWalks() {
        Edge.answers("36 begins with the end of the walk", two(1, 670, 10, 0),
                x -> x.evening(0, 0), 5);
        Edge.answers("36 begins a minute ahead of the end of the walk", two(1, 669, 10, 0),
                x -> x.evening(0, 0), 3);
        Edge.answers("36 the walk from the other stage", two(2, 580, 10, 0),
                x -> x.evening(0, 0), 5);
        Edge.answers("36 ends a minute too late for the walk", two(2, 580, 11, 0),
                x -> x.evening(0, 0), 3);
        Edge.answers("36 the way is longer by one", Edge.behind(two(1, 670, 10, 0),
                x -> x.setWay(0, 1, 11)), x -> x.evening(0, 0), 3);
        Edge.answers("36 the walk by another stage is as long as before",
                Edge.behind(two(1, 670, 10, 0), x -> {
                    x.setWay(0, 1, 60);
                    x.setWay(0, 3, 4);
                    x.setWay(3, 1, 6);
                }), x -> x.evening(0, 0), 5);
        Edge.answers("36 the walk by another stage is longer by one",
                Edge.behind(two(1, 670, 10, 0), x -> {
                    x.setWay(0, 1, 60);
                    x.setWay(0, 3, 5);
                    x.setWay(3, 1, 6);
                }), x -> x.evening(0, 0), 3);
    }

    private static void daysBegin() {
        for (int day = 0; day < 3; day++) {
            int last = 1440 * day + 1439;
            int of = day;
            Edge.Steps late = x -> {
                x.act(0, last, 10, 0, 1);
                x.act(0, last + 10, 10, 0, 1);
                x.wish(0, 0, 2);
                x.wish(0, 1, 3);
            };
            Edge.answers("36 the last minute of a day", late, x -> x.evening(0, of), 2);
            Edge.answers("36 what begins on the next day", late, x -> x.evening(0, of + 1), 3);
            Edge.answers("38 the price ends with the day", late, x -> x.price(0, 0), 2);
            Edge.Steps first = x -> {
                x.act(0, last + 1, 10, 0, 1);
                x.wish(0, 0, 2);
            };
            Edge.answers("36 the first minute of the next day", first, x -> x.evening(0, of + 1),
                    2);
            Edge.answers("36 the first minute of the next day", first, x -> x.evening(0, of), 0);
        }
        Edge.Steps ends = x -> {
            x.act(0, 0, 10, 0, 1);
            x.act(0, 5750, 10, 0, 1);
            x.wish(0, 0, 2);
            x.wish(0, 1, 3);
        };
        Edge.answers("36 the first minute of all", ends, x -> x.evening(0, 0), 2);
        Edge.answers("36 the last act of all", ends, x -> x.evening(0, 3), 3);
    }

    private static void wishedByMoreThanNothing() {
        Edge.Steps three = x -> {
            x.act(0, 100, 50, 0, 1);
            x.act(0, 200, 50, 0, 1);
            x.act(0, 300, 50, 0, 1);
            x.wish(0, 0, 1);
            x.wish(0, 2, 1);
        };
        Edge.answers("36 not by 0", three, x -> x.evening(0, 0), 2);
        Edge.answers("37 not by 0", three, x -> x.eveningAct(0, 0, 1), 2);
        Edge.refuses("37 not by 0", three, x -> x.eveningAct(0, 0, 2), N);
        Edge.answers("37 by 1", Edge.behind(three, x -> x.wish(0, 1, 1)),
                x -> x.eveningAct(0, 0, 1), 1);
        Edge.Steps atTheEnd = Edge.behind(three, x -> x.act(0, 400, 50, 0, 1));
        Edge.refuses("37 not by 0, at the end", atTheEnd, x -> x.eveningAct(0, 0, 2), N);
        Edge.answers("39 nor is it heard", atTheEnd, x -> x.listeners(0, 400), 0);
        Edge.answers("36 one that is not wished bars no way", Edge.behind(three, x -> {
            x.drop(1);
            x.act(0, 149, 152, 0, 1);
        }), x -> x.evening(0, 0), 2);
    }

    private static String row(Festivalgrounds x, int visitor, int day) {
        StringBuilder text = new StringBuilder();
        for (int i = 0; i < 16; i++) {
            int place = i;
            String act = Check.outcome(() -> x.eveningAct(visitor, day, place));
            text.append(act.startsWith("throws.") ? "" : act + " ");
        }
        return text.toString().trim();
    }

    private static void heaviestOfSeveral() {
        Edge.Steps many = x -> {
            x.act(0, 300, 50, 0, 1);
            x.act(0, 100, 50, 0, 1);
            x.act(0, 100, 50, 0, 1);
            x.act(0, 300, 50, 0, 1);
            x.act(0, 500, 50, 0, 1);
            x.act(0, 500, 50, 0, 1);
            for (int act = 0; act < 6; act++) {
                x.wish(0, act, 2);
            }
        };
        Edge.answers("37 the least first act, then the second one, then the third one", many,
                x -> row(x, 0, 0), "1 0 4");
        Edge.answers("37 the second one is heavier", Edge.behind(many, x -> x.wish(0, 2, 3)),
                x -> row(x, 0, 0), "2 0 4");
        Edge.answers("37 the least first act, whatever follows it", x -> {
            x.act(0, 100, 50, 0, 1);
            x.act(0, 100, 20, 0, 1);
            x.act(0, 120, 20, 0, 1);
            x.wish(0, 0, 4);
            x.wish(0, 1, 2);
            x.wish(0, 2, 2);
        }, x -> row(x, 0, 0), "0");
        Edge.answers("37 the least first act, though it has more acts", x -> {
            x.act(0, 100, 20, 0, 1);
            x.act(0, 100, 50, 0, 1);
            x.act(0, 120, 20, 0, 1);
            x.wish(0, 0, 2);
            x.wish(0, 1, 4);
            x.wish(0, 2, 2);
        }, x -> row(x, 0, 0), "0 2");
        Edge.answers("37 not the least act of all, but of the first ones", x -> {
            x.act(0, 300, 50, 0, 1);
            x.act(0, 200, 50, 0, 1);
            x.act(0, 300, 50, 0, 1);
            x.wish(0, 0, 3);
            x.wish(0, 1, 1);
            x.wish(0, 2, 3);
        }, x -> row(x, 0, 0), "1 0");
        Edge.answers("37 the second one is the least that can be reached", x -> {
            x.act(1, 155, 50, 0, 1);
            x.act(0, 100, 50, 0, 1);
            x.act(1, 160, 50, 0, 1);
            for (int act = 0; act < 3; act++) {
                x.wish(0, act, 1);
            }
        }, x -> row(x, 0, 0), "1 2");
    }

    private static void price() {
        Edge.Steps three = x -> {
            x.act(0, 100, 50, 0, 1);
            x.act(0, 150, 50, 0, 1);
            x.act(0, 199, 50, 0, 1);
            x.wish(0, 0, 1);
            x.wish(0, 2, 4);
        };
        Edge.answers("38 0 if it is not wished", three, x -> x.price(0, 1), 0);
        Edge.answers("38 wished by 1", Edge.behind(three, x -> x.wish(0, 1, 1)),
                x -> x.price(0, 1), 1);
        Edge.answers("38 the heaviest that begins with it", three, x -> x.price(0, 0), 5);
        Edge.answers("38 of two that exclude each other the heavier one",
                Edge.behind(three, x -> x.wish(0, 1, 5)), x -> x.price(0, 0), 6);
        Edge.answers("38 another visitor wishes it not", three, x -> x.price(11, 0), 0);
        Edge.answers("38 0 without wishes, though there are acts behind it",
                Edge.behind(three, x -> x.wish(0, 0, 0)), x -> x.price(0, 0), 0);
    }

    private static void listenersOfAnAct() {
        Edge.Steps one = x -> {
            x.act(2, 1000, 50, 60, 1);
            x.wish(7, 0, 1);
        };
        int[][] rows = {{939, 0}, {940, 0}, {999, 0}, {1000, 1}, {1001, 1}, {1049, 1}, {1050, 0},
            {1051, 0}};
        for (int[] row : rows) {
            Edge.answers("39 an act is on from its begin up to its end without it: " + row[0], one,
                    x -> x.listeners(2, row[0]), row[1]);
        }
        Edge.answers("39 at no other stage", one, x -> x.listeners(1, 1000) + x.listeners(3, 1000)
                + x.listeners(0, 1000), 0);
        Edge.answers("39 without acts", Edge.NEW, x -> x.listeners(0, 0), 0);
        Edge.answers("39 without wishes", x -> x.act(0, 100, 50, 0, 1),
                x -> x.listeners(0, 100), 0);
        Edge.answers("39 all visitors", x -> {
            x.act(0, 100, 50, 0, 1);
            for (int visitor = 0; visitor < 12; visitor++) {
                x.wish(visitor, 0, 1);
            }
        }, x -> x.listeners(0, 100), 12);
    }

    private static void listenersOfBestEvenings() {
        Edge.Steps two = x -> {
            x.act(0, 100, 50, 0, 1);
            x.act(1, 100, 50, 0, 1);
            x.wish(0, 0, 3);
            x.wish(0, 1, 3);
        };
        Edge.answers("39 by the best evening: of two the least number", two,
                x -> x.listeners(0, 100) + " " + x.listeners(1, 100), "1 0");
        Edge.answers("39 by the best evening: the heavier one",
                Edge.behind(two, x -> x.wish(0, 1, 4)),
                x -> x.listeners(0, 100) + " " + x.listeners(1, 100), "0 1");
        Edge.answers("39 a later act of the evening", x -> {
            x.act(0, 100, 50, 0, 1);
            x.act(0, 150, 50, 0, 1);
            x.wish(0, 0, 3);
            x.wish(0, 1, 3);
        }, x -> x.listeners(0, 149) + " " + x.listeners(0, 150) + " " + x.listeners(0, 199) + " "
                + x.listeners(0, 200), "1 1 1 0");
    }

    private static void listenersAtTheEnds() {
        Edge.Steps ends = x -> {
            x.act(0, 0, 10, 0, 1);
            x.act(3, 5750, 10, 0, 1);
            x.wish(0, 0, 3);
            x.wish(0, 1, 3);
        };
        Edge.answers("39 minute: 0 is taken", ends, x -> x.listeners(0, 0), 1);
        Edge.answers("39 minute: 5759 is taken", ends, x -> x.listeners(3, 5759), 1);
        Edge.answers("39 minute: 0 on the other stage", ends, x -> x.listeners(3, 0), 0);
        Edge.Steps midnight = x -> {
            x.act(1, 1439, 240, 0, 1);
            x.wish(4, 0, 3);
        };
        Edge.answers("39 the last minute of the day", midnight, x -> x.listeners(1, 1439), 1);
        Edge.answers("39 behind midnight", midnight, x -> x.listeners(1, 1440), 1);
        Edge.answers("39 till its end behind midnight", midnight, x -> x.listeners(1, 1678), 1);
        Edge.answers("39 no longer", midnight, x -> x.listeners(1, 1679), 0);
        Edge.answers("39 by two evenings one visitor is one listener", Edge.behind(midnight, x -> {
            x.act(1, 1440, 50, 0, 1);
            x.wish(4, 1, 3);
        }), x -> x.listeners(1, 1440), 1);
    }

    private static void listenersOfALongEvening() {
        for (int i = 0; i < 16; i++) {
            int begin = 10 * i;
            Edge.answers("39 each act of 16", LONG,
                    x -> x.listeners(0, begin) + x.listeners(0, begin + 9), 2);
        }
        Edge.answers("39 behind the last one", LONG, x -> x.listeners(0, 160), 0);
    }

    private static void meanEvening() {
        Edge.answers("56 without evenings", Edge.NEW, x -> x.meanEvening(0), 0.0);
        Edge.answers("56 the least one", x -> {
            x.act(0, 100, 50, 0, 1);
            x.wish(11, 0, 1);
        }, x -> x.meanEvening(0), 1.0 / 12.0);
        Edge.Steps all = x -> {
            for (int act = 0; act < 16; act++) {
                x.act(0, 4320 + 10 * act, 10, 0, 1);
            }
            for (int place = 0; place < 192; place++) {
                x.wish(place / 16, place % 16, 9);
            }
        };
        Edge.answers("56 the greatest one", all, x -> x.meanEvening(3), 144.0);
        Edge.answers("56 of this day alone", all, x -> x.meanEvening(2), 0.0);
    }
}
