/** The edges of promises 5 to 7 and 30 to 35: acts, wishes, clashes, lineups. */
public final class ActEdgeTests {
    private static final String I = Edge.I;
    private static final String A = Edge.A;
    private static final String S = Edge.S;

    public static void main(String[] args) {
        actNumbers();
        pieceWithinTheFestival();
        sixteenActs();
        leastNumberThatNoneHas();
        numbersOfActs();
        drop();
        wish();
        wishesOfANumberGivenAgain();
        actAt();
        acts();
        firstInFromAndTo();
        firstInOfSeveral();
        clashOnOneStage();
        clashByMembers();
        clashNumbers();
        clashes();
        pleased();
        lineupOfSeveral();
        bound();
        Check.end("ActEdgeTests");
    }

    /** Sixteen acts that do not clash, four on each stage. */
    private static final Edge.Steps SIXTEEN = x -> {
        for (int act = 0; act < 16; act++) {
            x.act(act % 4, 100 + act / 4 * 100, 50, 0, 1 << act % 4);
        }
    };

    private static void actNumbers() {
        Edge.range("5 stage: 0 to 3", Edge.FULL, 0, 3, I, (x, n) -> x.act(n, 100, 50, 0, 1));
        Edge.refusesOutside("5 begin: a minute", Edge.FULL, 0, 5750, A,
                (x, n) -> x.act(0, n, 10, 0, 1));
        Edge.refusesOutside("5 begin: a minute", Edge.FULL, 0, 5759, A,
                (x, n) -> x.act(0, n, 10, 0, 1));
        Edge.keeps("5 length: 10 to 240", Edge.NEW, 10, 240, (x, n) -> x.act(0, 100, n, 0, 1),
                x -> x.actAt(0, 2));
        Edge.refusesOutside("5 length: 10 to 240", Edge.FULL, 10, 240, A,
                (x, n) -> x.act(0, 100, n, 0, 1));
        Edge.keeps("5 check: 0 to 60", Edge.NEW, 0, 60, (x, n) -> x.act(0, 100, 50, n, 1),
                x -> x.actAt(0, 3));
        Edge.refusesOutside("5 check: 0 to 60", Edge.FULL, 0, 60, A,
                (x, n) -> x.act(0, 100, 50, n, 1));
        Edge.keeps("5 members: 1 to 4095", Edge.NEW, 1, 4095, (x, n) -> x.act(0, 100, 50, 0, n),
                x -> x.actAt(0, 4));
        Edge.refusesOutside("5 members: 1 to 4095", Edge.FULL, 1, 4095, A,
                (x, n) -> x.act(0, 100, 50, 0, n));
        int[] members = {8192, 65536, -4096, -1, 1 << 30};
        for (int i = 0; i < members.length; i++) {
            int set = members[i];
            Edge.refuses("5 members: " + set, Edge.FULL, x -> x.act(0, 100, 50, 0, set), A);
        }
    }

    private static void pieceWithinTheFestival() {
        Edge.answers("5 the piece begins at the minute 0, without a check", Edge.NEW,
                x -> x.act(0, 0, 10, 0, 1), 0);
        Edge.refuses("5 the piece begins ahead of it by a check of 1", Edge.FULL,
                x -> x.act(0, 0, 10, 1, 1), A);
        Edge.answers("5 the piece begins at the minute 0, by a check of 1", Edge.NEW,
                x -> x.act(0, 1, 10, 1, 1), 0);
        Edge.answers("5 the piece begins at the minute 0, by a check of 60", Edge.NEW,
                x -> x.act(0, 60, 10, 60, 1), 0);
        Edge.refuses("5 the piece begins ahead of it by a check of 60", Edge.FULL,
                x -> x.act(0, 59, 10, 60, 1), A);
        Edge.answers("5 the piece ends at 5760, with 10 minutes", Edge.NEW,
                x -> x.act(3, 5750, 10, 60, 4095), 0);
        Edge.refuses("5 the piece ends behind 5760, with 11 minutes", Edge.FULL,
                x -> x.act(0, 5750, 11, 0, 1), A);
        Edge.refuses("5 the piece ends behind 5760, with 10 minutes", Edge.FULL,
                x -> x.act(0, 5751, 10, 0, 1), A);
        Edge.answers("5 the piece ends at 5760, with 240 minutes", Edge.NEW,
                x -> x.act(0, 5520, 240, 0, 1), 0);
        Edge.refuses("5 the piece ends behind 5760, with 240 minutes", Edge.FULL,
                x -> x.act(0, 5521, 240, 0, 1), A);
        Edge.refuses("5 the piece begins with the last minute", Edge.FULL,
                x -> x.act(0, 5759, 10, 0, 1), A);
    }

    private static void sixteenActs() {
        Festivalgrounds x = new Festivalgrounds();
        for (int act = 0; act < 16; act++) {
            Check.same("5 the act " + act + " is taken", x.act(0, 100, 50, 0, 1), act);
            Check.same("31 how many there are", x.acts(), act + 1);
        }
        Edge.refuses("5 there are 16 acts", SIXTEEN, y -> y.act(0, 5000, 50, 0, 2048), S);
        Edge.answers("5 fifteen are left", Edge.behind(SIXTEEN, y -> y.drop(15)),
                y -> y.act(0, 5000, 50, 0, 2048), 15);
    }

    private static void leastNumberThatNoneHas() {
        for (int i = 0; i < 16; i++) {
            int act = i;
            Edge.answers("5 the number that none has", Edge.behind(SIXTEEN, x -> x.drop(act)),
                    x -> x.act(0, 5000, 50, 0, 1), act);
            Edge.answers("5 the least number that none has", Edge.behind(SIXTEEN, x -> {
                x.drop(act);
                x.drop((act + 5) % 16);
            }), x -> x.act(0, 5000, 50, 0, 1), Math.min(act, (act + 5) % 16));
        }
        Edge.answers("5 all were dropped", Edge.behind(SIXTEEN, x -> {
            for (int act = 15; act >= 0; act--) {
                x.drop(act);
            }
        }), x -> x.act(0, 5000, 50, 0, 1), 0);
    }

    /** Each call with an act: numbers that none has, in the middle and outside. */
    private static void numbersOfActs() {
        Edge.NumberCall[] calls = {(x, act) -> x.drop(act), (x, act) -> x.wish(0, act, 1),
            (x, act) -> x.actAt(act, 0), (x, act) -> x.actAt(act, 6), (x, act) -> x.clash(act, 0),
            (x, act) -> x.clash(0, act), (x, act) -> x.price(0, act), (x, act) -> x.movedTo(act)};
        String[] names = {"6 drop", "7 wish", "30 actAt", "30 actAt", "33 clash", "33 clash",
            "38 price", "52 movedTo"};
        for (int i = 0; i < calls.length; i++) {
            Edge.refusesOutside(names[i] + ": an act, 0 to 15", Edge.FULL, 0, 15, I, calls[i]);
            Edge.refusesOutside(names[i] + ": an act, 0 to 15", SIXTEEN, 0, 15, I, calls[i]);
            int at = i;
            Edge.refuses(names[i] + ": an act that was dropped", Edge.FULL,
                    x -> calls[at].on(x, 4), I);
            Edge.refuses(names[i] + ": an act that is not there yet", Edge.FULL,
                    x -> calls[at].on(x, 6), I);
            Edge.refuses(names[i] + ": an act, without acts", Edge.NEW,
                    x -> calls[at].on(x, 0), I);
            if (!names[i].startsWith("33")) {
                Edge.range(names[i] + ": an act, of 16", SIXTEEN, 0, 15, I, calls[i]);
            }
        }
        for (int i = 1; i < 16; i++) {
            int act = i;
            Edge.answers("33 clash: an act, of 16", SIXTEEN, x -> x.clash(act, 0), false);
            Edge.answers("33 clash: another act, of 16", SIXTEEN, x -> x.clash(0, act), false);
        }
    }

    private static void drop() {
        Edge.answers("6 how much it pleased: nobody wished it", SIXTEEN, x -> x.drop(7), 0);
        Edge.Steps wished = Edge.behind(SIXTEEN, x -> {
            for (int visitor = 0; visitor < 12; visitor++) {
                x.wish(visitor, 15, 9);
                x.wish(visitor, 0, 1);
            }
        });
        Edge.answers("6 how much it pleased: all wished it most", wished, x -> x.drop(15), 108);
        Edge.answers("6 how much it pleased: all wished it least", wished, x -> x.drop(0), 12);
        Edge.answers("6 the other wishes stay", Edge.behind(wished, x -> x.drop(15)),
                x -> x.actAt(0, 5), 12);
        Edge.refuses("6 it is not there any more", Edge.behind(wished, x -> x.drop(15)),
                x -> x.drop(15), I);
        Edge.answers("31 one act is fewer", Edge.behind(wished, x -> x.drop(15)),
                x -> x.acts(), 15);
    }

    private static void wish() {
        Edge.range("7 visitor: 0 to 11", Edge.FULL, 0, 11, I, (x, n) -> x.wish(n, 0, 1));
        Edge.keeps("7 weight: 0 to 9", Edge.FULL, 0, 9, (x, n) -> x.wish(0, 0, n),
                x -> x.wish(0, 0, 4));
        for (int i = 0; i < 12; i++) {
            int visitor = i;
            for (int j = 0; j < 16; j++) {
                int act = j;
                Edge.answers("7 at first it is 0", SIXTEEN, x -> x.wish(visitor, act, 9), 0);
            }
            Edge.answers("7 what it was", Edge.behind(SIXTEEN, x -> x.wish(visitor, 15, 9)),
                    x -> x.wish(visitor, 15, 0), 9);
            Edge.answers("7 no other visitor's", Edge.behind(SIXTEEN, x -> x.wish(visitor, 15, 9)),
                    x -> x.wish((visitor + 1) % 12, 15, 0), 0);
            Edge.answers("7 no other act's", Edge.behind(SIXTEEN, x -> x.wish(visitor, 15, 9)),
                    x -> x.wish(visitor, 14, 0) + x.wish((visitor + 1) % 12, 0, 0), 0);
        }
    }

    private static void wishesOfANumberGivenAgain() {
        for (int i = 0; i < 12; i++) {
            int visitor = i;
            Edge.Steps again = Edge.behind(SIXTEEN, x -> {
                x.wish(visitor, 6, 9);
                x.drop(6);
                x.act(0, 3000, 50, 0, 1);
            });
            Edge.answers("7 at first 0, for a number that an earlier act had", again,
                    x -> x.wish(visitor, 6, 1), 0);
            Edge.answers("30 nor does it please", again, x -> x.actAt(6, 5), 0);
        }
        Edge.answers("7 at first 0, for the number of an act that was left out",
                x -> {
                    x.setOpen(0, true);
                    x.setOpen(1, true);
                    x.setOpen(2, true);
                    x.setOpen(3, true);
                    x.act(0, 100, 50, 0, 1);
                    x.wish(5, 0, 7);
                    x.rain(100, 101);
                    x.moveAll();
                    x.act(0, 100, 50, 0, 1);
                }, x -> x.wish(5, 0, 1), 0);
    }

    private static void actAt() {
        Edge.range("30 what: 0 to 6", Edge.FULL, 0, 6, A, (x, what) -> x.actAt(5, what));
        int[] due = {3, 3100, 20, 0, 1, 9, 1};
        for (int i = 0; i <= 6; i++) {
            int what = i;
            Edge.answers("30 what: " + what, Edge.FULL, x -> x.actAt(5, what), due[what]);
        }
        int[] least = {0, 0, 10, 0, 1, 0, 1};
        int[] most = {3, 5520, 240, 60, 4095, 108, 1};
        for (int i = 0; i <= 6; i++) {
            int what = i;
            Edge.answers("30 the least numbers: " + what, x -> x.act(0, 0, 10, 0, 1),
                    x -> x.actAt(0, what), least[what]);
            Edge.answers("30 the greatest numbers: " + what, x -> {
                x.act(3, 5520, 240, 60, 4095);
                for (int visitor = 0; visitor < 12; visitor++) {
                    x.wish(visitor, 0, 9);
                }
            }, x -> x.actAt(0, what), most[what]);
        }
    }

    private static void acts() {
        Edge.answers("31 without acts", Edge.NEW, x -> x.acts(), 0);
        Edge.answers("31 with 16", SIXTEEN, x -> x.acts(), 16);
        Edge.answers("31 the last one is dropped", x -> {
            x.act(0, 100, 50, 0, 1);
            x.drop(0);
        }, x -> x.acts(), 0);
    }

    private static void firstInFromAndTo() {
        Edge.Steps two = x -> {
            x.act(2, 0, 10, 0, 1);
            x.act(2, 5750, 10, 0, 1);
        };
        int min = Integer.MIN_VALUE;
        int max = Integer.MAX_VALUE;
        Edge.range("32 stage: 0 to 3", Edge.FULL, 0, 3, I, (x, stage) -> x.firstIn(stage, 0, 1));
        int[][] rows = {{0, 1, 0}, {0, 0, -1}, {-1, 0, -1}, {-1, 1, 0}, {1, 5750, -1},
            {1, 5751, 1}, {5750, 5751, 1}, {5750, 5750, -1}, {5751, max, -1}, {min, max, 0},
            {min, 0, -1}, {min, 1, 0}, {min, min, -1}, {max, max, -1}, {5749, 5750, -1},
            {1, max, 1}, {-5, 5760, 0}, {5760, 5760, -1}, {max - 1, max, -1}};
        for (int[] row : rows) {
            Edge.answers("32 from " + row[0] + " to " + row[1], two,
                    x -> x.firstIn(2, row[0], row[1]), row[2]);
        }
        int[][] wrong = {{1, 0}, {0, -1}, {max, min}, {max, max - 1}, {min + 1, min}, {5760, 0},
            {0, min}, {max, 0}};
        for (int[] row : wrong) {
            Edge.refuses("32 from " + row[0] + " is greater than to " + row[1], Edge.FULL,
                    x -> x.firstIn(2, row[0], row[1]), A);
        }
        Edge.answers("32 without acts", Edge.NEW, x -> x.firstIn(0, min, max), -1);
        Edge.answers("32 without one on this stage", two, x -> x.firstIn(3, min, max), -1);
    }

    private static void firstInOfSeveral() {
        Edge.Steps same = x -> {
            x.act(0, 400, 50, 0, 1);
            x.act(1, 300, 50, 0, 1);
            x.act(0, 300, 50, 60, 1);
            x.act(0, 300, 40, 0, 1);
            x.act(0, 301, 40, 60, 1);
        };
        Edge.answers("32 the first one, not the least number", same, x -> x.firstIn(0, 0, 999), 2);
        Edge.answers("32 of several that begin at the same minute the least number", same,
                x -> x.firstIn(0, 300, 301), 2);
        Edge.answers("32 not before from", same, x -> x.firstIn(0, 301, 999), 4);
        Edge.answers("32 not before from", same, x -> x.firstIn(0, 302, 999), 0);
        Edge.answers("32 the check does not count", same, x -> x.firstIn(0, 0, 300), -1);
        Edge.answers("32 the least number was dropped",
                Edge.behind(same, x -> x.drop(2)), x -> x.firstIn(0, 0, 999), 3);
    }

    /** Acts of a stage each and a member each; the first one is from 100 to 150. */
    private static Edge.Steps pair(int stage, int begin, int length, int check, int members) {
        return x -> {
            x.act(0, 100, 50, 20, 0b11);
            x.act(stage, begin, length, check, members);
        };
    }

    private static void clash(String sentence, Edge.Steps steps, boolean due) {
        Edge.answers(sentence, steps, x -> x.clash(0, 1), due);
        Edge.answers(sentence + ", the other way", steps, x -> x.clash(1, 0), due);
        Edge.answers(sentence + ", counted", steps, x -> x.clashes(), due ? 1 : 0);
    }

    private static void clashOnOneStage() {
        clash("33 begins with the end of the other", pair(0, 150, 50, 0, 4), false);
        clash("33 begins a minute ahead of the end", pair(0, 149, 50, 0, 4), true);
        clash("33 the check begins with the end", pair(0, 210, 50, 60, 4), false);
        clash("33 the check begins a minute ahead of the end", pair(0, 209, 50, 60, 4), true);
        clash("33 ends with the begin of the other's check", pair(0, 70, 10, 0, 4), false);
        clash("33 ends a minute behind it", pair(0, 70, 11, 0, 4), true);
        clash("33 ends with the begin of the other", pair(0, 90, 10, 0, 4), true);
        clash("33 within the other", pair(0, 110, 10, 0, 4), true);
        clash("33 around the other", pair(0, 60, 240, 60, 4), true);
        clash("33 the same", pair(0, 100, 50, 20, 4), true);
        clash("33 within the other's check", pair(0, 85, 10, 0, 4), true);
    }

    private static void clashByMembers() {
        clash("33 neither stage nor member", pair(1, 100, 50, 20, 0b111111111100), false);
        clash("33 one member in common", pair(1, 100, 50, 20, 0b10), true);
        clash("33 all members in common", pair(3, 100, 50, 20, 0b11), true);
        clash("33 a member and a stage in common", pair(0, 100, 50, 20, 0b11), true);
        clash("33 a member in common, but no minute", pair(1, 150, 50, 0, 0b10), false);
        clash("33 a member and one minute in common", pair(1, 149, 50, 0, 0b10), true);
        clash("33 a member in common, the checks meet not", pair(1, 70, 10, 0, 0b10), false);
        clash("33 a member in common, the check meets", pair(1, 70, 11, 0, 0b10), true);
        for (int musician = 0; musician < 12; musician++) {
            int members = 1 << musician;
            Edge.Steps both = x -> {
                x.act(0, 100, 50, 0, members);
                x.act(1, 100, 50, 0, members);
            };
            clash("33 the musician " + musician, both, true);
            clash("33 all but the musician " + musician, x -> {
                x.act(0, 100, 50, 0, members);
                x.act(1, 100, 50, 0, 4095 - members);
            }, false);
        }
    }

    private static void clashNumbers() {
        int[] there = {0, 1, 2, 3, 5};
        for (int i = 0; i < there.length; i++) {
            int act = there[i];
            Edge.refuses("33 both are the same", Edge.FULL, x -> x.clash(act, act), A);
        }
        Edge.refuses("33 both are the same, the last of 16", SIXTEEN, x -> x.clash(15, 15), A);
    }

    private static void clashes() {
        Edge.answers("34 without acts", Edge.NEW, x -> x.clashes(), 0);
        Edge.answers("34 with one act", x -> x.act(0, 100, 50, 0, 1), x -> x.clashes(), 0);
        Edge.answers("34 with 16 that do not clash", SIXTEEN, x -> x.clashes(), 0);
        Edge.answers("34 with 16 that all clash", x -> {
            for (int act = 0; act < 16; act++) {
                x.act(act % 4, 100, 50, 0, 1);
            }
        }, x -> x.clashes(), 120);
    }

    private static void pleased() {
        Edge.answers("35 without acts", Edge.NEW, x -> x.pleased(false), 0);
        Edge.answers("35 the bound without acts", Edge.NEW, x -> x.pleased(true), 0);
        Edge.answers("35 without wishes", SIXTEEN, x -> x.pleased(false), 0);
        Edge.answers("35 the bound without wishes", SIXTEEN, x -> x.pleased(true), 0);
        Edge.Steps most = Edge.behind(SIXTEEN, x -> {
            for (int place = 0; place < 192; place++) {
                x.wish(place / 16, place % 16, 9);
            }
        });
        Edge.answers("35 all wishes for all acts", most, x -> x.pleased(false), 16 * 108);
        Edge.answers("35 the bound of all", most, x -> x.pleased(true), 16 * 108);
        Edge.answers("30 the last one is in the best lineup", most, x -> x.actAt(15, 6), 1);
    }

    private static String lineup(Festivalgrounds x) {
        StringBuilder text = new StringBuilder();
        for (int act = 0; act < x.acts(); act++) {
            text.append(x.actAt(act, 6));
        }
        return text.toString();
    }

    private static void lineupOfSeveral() {
        Edge.Steps row = x -> {
            x.act(0, 100, 60, 0, 1);
            x.act(0, 150, 60, 0, 1);
            x.act(0, 200, 60, 0, 1);
            x.act(0, 250, 60, 0, 1);
        };
        Edge.answers("35 without wishes the least acts are in", row, x -> lineup(x), "1010");
        Edge.answers("35 one and three please as much", Edge.behind(row, x -> {
            x.wish(0, 1, 2);
            x.wish(0, 0, 1);
            x.wish(0, 2, 1);
        }), x -> lineup(x), "1010");
        Edge.answers("35 one pleases more by one", Edge.behind(row, x -> {
            x.wish(0, 1, 3);
            x.wish(0, 0, 1);
            x.wish(0, 2, 1);
        }), x -> lineup(x), "0101");
        Edge.answers("35 who pleases nobody, but clashes with none, is in", Edge.behind(row, x -> {
            x.wish(0, 0, 1);
            x.act(3, 5000, 50, 0, 8);
        }), x -> lineup(x), "10101");
        Edge.answers("35 the least act decides, not how many there are", x -> {
            x.act(0, 100, 240, 0, 1);
            x.act(0, 100, 10, 0, 1);
            x.act(0, 110, 10, 0, 1);
            x.act(0, 120, 10, 0, 1);
        }, x -> lineup(x), "1000");
        Edge.answers("35 nor how long they are", x -> {
            x.act(0, 100, 10, 0, 1);
            x.act(0, 109, 10, 0, 1);
            x.act(0, 118, 10, 0, 1);
            x.act(0, 127, 10, 0, 1);
            x.act(0, 136, 10, 0, 1);
            for (int act = 0; act < 5; act++) {
                x.wish(act, act, act % 2 == 0 ? 2 : 3);
            }
        }, x -> lineup(x), "10101");
        Edge.answers("35 of several at the end", x -> {
            for (int act = 0; act < 16; act++) {
                x.act(act / 4, 100 + act % 2, 50, 0, 1 << act / 4);
                x.wish(0, act, 1);
            }
        }, x -> lineup(x), "1000100010001000");
    }

    private static void bound() {
        Edge.Steps two = x -> {
            x.act(0, 100, 50, 0, 1);
            x.act(1, 100, 50, 0, 1);
            x.wish(0, 0, 4);
            x.wish(0, 1, 5);
        };
        Edge.answers("35 a member in common", two, x -> x.pleased(false), 5);
        Edge.answers("35 the bound looks at each stage alone", two, x -> x.pleased(true), 9);
        Edge.Steps one = x -> {
            x.act(2, 100, 50, 0, 1);
            x.act(2, 149, 50, 0, 2);
            x.act(2, 199, 50, 0, 1);
            x.wish(0, 0, 4);
            x.wish(0, 1, 5);
            x.wish(0, 2, 2);
        };
        Edge.answers("35 the bound of pieces that meet", one, x -> x.pleased(true), 7);
        Edge.answers("35 one minute less, and all are in", Edge.behind(one, x -> {
            x.drop(1);
            x.act(2, 150, 49, 0, 2);
            x.wish(0, 1, 5);
        }), x -> x.pleased(true), 11);
        Edge.answers("35 checks count for the bound", x -> {
            x.act(3, 100, 50, 0, 1);
            x.act(3, 150, 50, 1, 2);
            x.wish(0, 0, 4);
            x.wish(0, 1, 5);
        }, x -> x.pleased(true), 5);
    }
}
