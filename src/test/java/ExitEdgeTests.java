/** The edges of promises 8 to 10, 40 and 41: gates, crowds, the ways out. */
public final class ExitEdgeTests {
    private static final String I = Edge.I;

    public static void main(String[] args) {
        numbers();
        eachPlaceOfItsOwn();
        withoutPeople();
        allGatesShut();
        minuteGreaterThanTheReach();
        fullMinutes();
        leastReachOfASet();
        greatestNumbers();
        cutIsTheLeastSet();
        cutNeedsTooMany();
        Check.end("ExitEdgeTests");
    }

    private static void numbers() {
        Edge.range("8 gate: 0 to 2", Edge.FULL, 0, 2, I, (x, n) -> x.setGate(n, 1));
        Edge.range("9 gate: 0 to 2", Edge.FULL, 0, 2, I, (x, n) -> x.setReach(n, 0, 1));
        Edge.range("9 stage: 0 to 3", Edge.FULL, 0, 3, I, (x, n) -> x.setReach(0, n, 1));
        Edge.range("10 stage: 0 to 3", Edge.FULL, 0, 3, I, (x, n) -> x.setCrowd(n, 1));
        Edge.keeps("8 people: 0 to 50", Edge.FULL, 0, 50, (x, n) -> x.setGate(2, n),
                x -> x.setGate(2, 1));
        Edge.keeps("9 minutes: 1 to 30", Edge.FULL, 1, 30, (x, n) -> x.setReach(2, 3, n),
                x -> x.setReach(2, 3, 1));
        Edge.keeps("10 people: 0 to 2000", Edge.NEW, 0, 2000, (x, n) -> x.setCrowd(3, n),
                x -> x.setCrowd(3, 1));
        Edge.refusesOutside("10 people: 0 to 2000", Edge.FULL, 0, 2000, Edge.A,
                (x, n) -> x.setCrowd(3, n));
    }

    private static void eachPlaceOfItsOwn() {
        for (int i = 0; i < 12; i++) {
            int gate = i / 4;
            int stage = i % 4;
            Edge.answers("9 what it was", x -> x.setReach(gate, stage, 30),
                    x -> x.setReach(gate, stage, 1), 30);
            Edge.answers("9 another gate stays", x -> x.setReach(gate, stage, 30),
                    x -> x.setReach((gate + 1) % 3, stage, 1), 10);
            Edge.answers("9 another stage stays", x -> x.setReach(gate, stage, 30),
                    x -> x.setReach(gate, (stage + 1) % 4, 1), 10);
            Edge.answers("8 another gate stays", x -> x.setGate(gate, 50),
                    x -> x.setGate((gate + 1) % 3, 1), 0);
            Edge.answers("10 another stage stays", x -> x.setCrowd(stage, 2000),
                    x -> x.setCrowd((stage + 1) % 4, 1), 0);
            Edge.answers("40 each gate from each stage", x -> {
                x.setGate(gate, 1);
                x.setReach(gate, stage, 3);
                x.setCrowd(stage, 2);
            }, x -> x.outBy(), 5);
            Edge.answers("41 each stage", x -> {
                x.setGate(gate, 1);
                x.setReach(gate, stage, 3);
                x.setCrowd(stage, 2);
            }, x -> x.cut(), 1 << stage);
        }
    }

    private static void withoutPeople() {
        Edge.answers("40 0 without people", Edge.NEW, x -> x.outBy(), 0);
        Edge.answers("41 0 if outBy() is 0", Edge.NEW, x -> x.cut(), 0);
        Edge.Steps open = x -> {
            x.setGate(0, 50);
            x.setGate(1, 50);
            x.setGate(2, 50);
        };
        Edge.answers("40 0 without people, all gates open", open, x -> x.outBy(), 0);
        Edge.answers("41 0 if outBy() is 0, all gates open", open, x -> x.cut(), 0);
        Edge.Steps gone = Edge.behind(open, x -> {
            x.setCrowd(2, 2000);
            x.setCrowd(2, 0);
        });
        Edge.answers("40 0 when the people are gone", gone, x -> x.outBy(), 0);
        Edge.answers("41 0 when the people are gone", gone, x -> x.cut(), 0);
    }

    private static void allGatesShut() {
        for (int i = 0; i < 4; i++) {
            int stage = i;
            Edge.Steps one = x -> x.setCrowd(stage, 1);
            Edge.answers("40 NONE with one who can't go", one, x -> x.outBy(), -1);
            Edge.answers("41 0 if outBy() is NONE", one, x -> x.cut(), 0);
            Edge.answers("59 this holds if outBy() is NONE", one, x -> x.errors(), 0);
        }
        Edge.Steps many = x -> {
            for (int stage = 0; stage < 4; stage++) {
                x.setCrowd(stage, 2000);
            }
        };
        Edge.answers("40 NONE with most people", many, x -> x.outBy(), -1);
        for (int i = 0; i < 3; i++) {
            int gate = i;
            Edge.answers("40 one gate is open", Edge.behind(many, x -> x.setGate(gate, 1)),
                    x -> x.outBy(), 8010);
            Edge.answers("40 it is shut again", Edge.behind(many, x -> {
                x.setGate(gate, 1);
                x.setGate(gate, 0);
            }), x -> x.outBy(), -1);
        }
    }

    private static void minuteGreaterThanTheReach() {
        for (int minutes = 1; minutes <= 30; minutes++) {
            int reach = minutes;
            Edge.Steps one = x -> {
                x.setGate(1, 1);
                x.setReach(1, 2, reach);
                x.setCrowd(2, 1);
            };
            Edge.answers("40 in each minute whose number is greater", one, x -> x.outBy(),
                    reach + 1);
            Edge.answers("41 one minute less", one, x -> x.cut(), 4);
        }
    }

    private static void fullMinutes() {
        int[][] rows = {{1, 11}, {49, 11}, {50, 11}, {51, 12}, {100, 12}, {101, 13}, {2000, 50},
            {1951, 50}, {1950, 49}};
        for (int[] row : rows) {
            Edge.answers("40 if there is room in it: " + row[0] + " people", x -> {
                x.setGate(0, 50);
                x.setCrowd(0, row[0]);
            }, x -> x.outBy(), row[1]);
        }
        int[][] two = {{1, 11}, {8, 11}, {9, 12}, {16, 12}, {17, 13}};
        for (int[] row : two) {
            Edge.answers("40 room at two gates: " + row[0] + " people", x -> {
                x.setGate(0, 5);
                x.setGate(2, 3);
                x.setCrowd(0, row[0]);
            }, x -> x.outBy(), row[1]);
        }
        int[][] apart = {{5, 3}, {6, 4}, {10, 4}, {11, 5}, {13, 5}, {18, 5}, {19, 6}};
        for (int[] row : apart) {
            Edge.answers("40 the second gate later: " + row[0] + " people", x -> {
                x.setGate(0, 5);
                x.setGate(2, 3);
                x.setReach(0, 1, 2);
                x.setReach(2, 1, 4);
                x.setCrowd(1, row[0]);
            }, x -> x.outBy(), row[1]);
        }
    }

    private static void leastReachOfASet() {
        Edge.Steps two = x -> {
            x.setGate(0, 10);
            x.setReach(0, 0, 5);
            x.setReach(0, 1, 8);
            x.setCrowd(0, 30);
            x.setCrowd(1, 10);
        };
        Edge.answers("40 both go in time", two, x -> x.outBy(), 9);
        Edge.answers("41 the far stage and both have too many by 8", two, x -> x.cut(), 2);
        Edge.Steps more = Edge.behind(two, x -> x.setCrowd(0, 31));
        Edge.answers("40 one more than both can", more, x -> x.outBy(), 10);
        Edge.answers("41 only both together have too many by 9", more, x -> x.cut(), 3);
        Edge.Steps fewer = Edge.behind(two, x -> x.setCrowd(0, 41));
        Edge.answers("40 eleven more", fewer, x -> x.outBy(), 11);
        Edge.answers("41 the near stage alone has not too many by 10", fewer, x -> x.cut(), 3);
    }

    private static void greatestNumbers() {
        Edge.Steps slow = x -> {
            x.setGate(2, 1);
            for (int stage = 0; stage < 4; stage++) {
                x.setReach(2, stage, 30);
                x.setCrowd(stage, 2000);
            }
        };
        Edge.answers("40 most people, the narrowest and farthest gate", slow,
                x -> x.outBy(), 8030);
        Edge.answers("41 all stages together", slow, x -> x.cut(), 15);
        Edge.answers("59 nobody is too many for it", slow, x -> x.errors(), 0);
        Edge.Steps one = Edge.behind(slow, x -> {
            x.setCrowd(0, 1);
            x.setCrowd(1, 0);
            x.setCrowd(2, 0);
        });
        Edge.answers("40 one more than one stage alone", one, x -> x.outBy(), 2031);
        Edge.answers("41 the last stage has too many with the first one only", one,
                x -> x.cut(), 9);
        Edge.Steps fast = Edge.behind(slow, x -> {
            x.setGate(0, 50);
            x.setGate(1, 50);
            x.setGate(2, 50);
            for (int place = 0; place < 12; place++) {
                x.setReach(place / 4, place % 4, 1);
            }
        });
        // 8000 people by 150 a minute are 54 minutes behind the first one.
        Edge.answers("40 most people, the widest and nearest gates", fast, x -> x.outBy(), 55);
    }

    private static void cutIsTheLeastSet() {
        Edge.Steps even = x -> {
            x.setGate(0, 10);
            x.setCrowd(1, 10);
            x.setCrowd(3, 10);
        };
        Edge.answers("40 both in two minutes", even, x -> x.outBy(), 12);
        Edge.answers("41 alone none has too many", even, x -> x.cut(), 10);
        Edge.answers("41 alone the first one has as many as can pass",
                Edge.behind(even, x -> x.setCrowd(1, 20)), x -> x.cut(), 10);
        Edge.answers("40 alone the last one has too many", Edge.behind(even, x -> {
            x.setReach(0, 3, 11);
            x.setReach(0, 1, 1);
        }), x -> x.outBy(), 12);
        Edge.answers("41 alone the last one has too many", Edge.behind(even, x -> {
            x.setReach(0, 3, 11);
            x.setReach(0, 1, 1);
        }), x -> x.cut(), 8);
        Edge.answers("41 of two sets the least number", Edge.behind(even, x -> {
            x.setReach(0, 3, 11);
            x.setReach(0, 1, 11);
            x.setCrowd(3, 1);
            x.setCrowd(1, 1);
        }), x -> x.cut(), 2);
        Edge.answers("41 a set without the first stages", Edge.behind(even, x -> {
            x.setCrowd(1, 0);
            x.setCrowd(2, 10);
        }), x -> x.cut(), 12);
    }

    private static void cutNeedsTooMany() {
        Edge.Steps exact = x -> {
            x.setGate(0, 4);
            x.setReach(0, 0, 1);
            x.setCrowd(0, 8);
        };
        Edge.answers("40 as many as can pass are not too many", exact, x -> x.outBy(), 3);
        Edge.answers("41 by 2 minutes four are too many", exact, x -> x.cut(), 1);
        Edge.answers("40 one more is too many", Edge.behind(exact, x -> x.setCrowd(0, 9)),
                x -> x.outBy(), 4);
        Edge.answers("40 one fewer needs as long", Edge.behind(exact, x -> x.setCrowd(0, 7)),
                x -> x.outBy(), 3);
        Edge.answers("40 at the nearest gate the least minutes are 2",
                Edge.behind(exact, x -> x.setCrowd(0, 1)), x -> x.outBy(), 2);
        Edge.answers("41 by one minute nobody can pass",
                Edge.behind(exact, x -> x.setCrowd(0, 1)), x -> x.cut(), 1);
    }
}
