/** The edges of promises 19, 51 and 52: rain plans, and how long they are kept. */
public final class RainEdgeTests {
    private static final String A = Edge.A;
    private static final String S = Edge.S;

    public static void main(String[] args) {
        numbers();
        meetsActsThatAreOn();
        meetsStagesInTheOpenAir();
        sixAndSeven();
        refusedRainKeepsThePlan();
        goesToTheLeastStage();
        piecesThatStay();
        piecesThatAreMoved();
        fewestLeftOut();
        leastActFirst();
        noStageIsCovered();
        keptTillTheNextOne();
        keptTillAnyChange();
        moveAllWithoutAPlan();
        moveAll();
        Check.end("RainEdgeTests");
    }

    /** One act on the stage 0 in the open air, from 100 to 150, its check from 70 on. */
    private static final Edge.Steps ONE = x -> {
        x.setOpen(0, true);
        x.act(0, 100, 50, 30, 1);
    };

    private static void numbers() {
        Edge.refusesOutside("51 from: 0 to 5759", Edge.FULL, 0, 5759, A,
                (x, n) -> x.rain(n, 5760));
        Edge.refusesOutside("51 to: from + 1 to 5760", Edge.FULL, 1, 5760, A,
                (x, n) -> x.rain(0, n));
        Edge.refusesOutside("51 to: from + 1 to 5760", Edge.FULL, 701, 5760, A,
                (x, n) -> x.rain(700, n));
        Edge.refusesOutside("51 to: from + 1 to 5760", Edge.FULL, 5760, 5760, A,
                (x, n) -> x.rain(5759, n));
        Edge.refuses("51 both are the greatest number", Edge.FULL,
                x -> x.rain(Integer.MAX_VALUE, Integer.MAX_VALUE), A);
        Edge.refuses("51 both are the least number", Edge.FULL,
                x -> x.rain(Integer.MIN_VALUE, Integer.MIN_VALUE), A);
        Edge.refuses("51 from + 1 goes round", Edge.FULL,
                x -> x.rain(Integer.MAX_VALUE, Integer.MIN_VALUE), A);
        Edge.answers("51 from: 0 is taken", Edge.NEW, x -> x.rain(0, 1), 0);
        Edge.answers("51 from: 5759 is taken", Edge.NEW, x -> x.rain(5759, 5760), 0);
        Edge.answers("51 to: 5760 is taken", Edge.NEW, x -> x.rain(0, 5760), 0);
    }

    private static void meetsActsThatAreOn() {
        int[][] rows = {{0, 70, -1}, {70, 100, -1}, {99, 100, -1}, {99, 101, 1}, {100, 101, 1},
            {0, 5760, 1}, {120, 121, 1}, {149, 150, 1}, {149, 5760, 1}, {150, 151, -1},
            {150, 5760, -1}, {0, 1, -1}};
        for (int[] row : rows) {
            Edge.answers("51 rain from " + row[0] + " up to " + row[1] + ", without this minute",
                    Edge.behind(ONE, x -> x.rain(row[0], row[1])), x -> x.movedTo(0), row[2]);
        }
        Edge.answers("51 the first minute of all", x -> {
            x.setOpen(3, true);
            x.act(3, 0, 10, 0, 1);
            x.rain(0, 1);
        }, x -> x.movedTo(0), 0);
        Edge.answers("51 the last minute of all", x -> {
            x.setOpen(3, true);
            x.act(3, 5750, 10, 0, 1);
            x.rain(5759, 5760);
        }, x -> x.movedTo(0), 0);
    }

    private static void meetsStagesInTheOpenAir() {
        for (int i = 0; i < 4; i++) {
            int stage = i;
            Edge.Steps each = x -> {
                for (int act = 0; act < 4; act++) {
                    x.act(act, 100, 50, 0, 1);
                }
                x.setOpen(stage, true);
            };
            Edge.answers("51 no covered stage is free", each, x -> x.rain(100, 101), 1);
            Edge.answers("52 acts on covered stages stay", Edge.behind(each,
                    x -> x.rain(100, 101)), x -> x.movedTo((stage + 1) % 4), -1);
            Edge.answers("52 the act in the open air is left out", Edge.behind(each,
                    x -> x.rain(100, 101)), x -> x.movedTo(stage), 4);
            Edge.answers("51 all stages are covered", Edge.behind(each,
                    x -> x.setOpen(stage, false)), x -> x.rain(100, 101), 0);
        }
        Edge.answers("51 without acts", x -> x.setOpen(0, true), x -> x.rain(0, 5760), 0);
    }

    private static Edge.Steps many(int acts) {
        return x -> {
            x.setOpen(0, true);
            for (int act = 0; act < acts; act++) {
                x.act(0, 100 + 10 * act, 10, 0, 1);
            }
        };
    }

    private static void sixAndSeven() {
        Edge.answers("51 six are taken", many(6), x -> x.rain(0, 5760), 0);
        Edge.refuses("51 the rain meets more than 6 acts", many(7), x -> x.rain(0, 5760), S);
        Edge.refuses("51 the rain meets 16 acts", many(16), x -> x.rain(0, 5760), S);
        Edge.answers("51 of 16 it meets six, the last ones", many(16), x -> x.rain(200, 5760), 0);
        Edge.refuses("51 one minute earlier it meets seven", many(16),
                x -> x.rain(199, 5760), S);
        Edge.answers("51 of 16 it meets six, the first ones", many(16), x -> x.rain(0, 160), 0);
        Edge.refuses("51 one minute longer it meets seven", many(16), x -> x.rain(0, 161), S);
        Edge.answers("52 the sixth one goes, too", Edge.behind(many(16), x -> x.rain(200, 5760)),
                x -> x.movedTo(9) + " " + x.movedTo(10) + " " + x.movedTo(15), "-1 1 1");
        Edge.answers("51 six that all meet, three covered stages", x -> {
            x.setOpen(0, true);
            for (int act = 0; act < 6; act++) {
                x.act(0, 100, 50, 0, 1);
            }
        }, x -> x.rain(100, 101) + " " + x.movedTo(0) + x.movedTo(1) + x.movedTo(2)
                + x.movedTo(3) + x.movedTo(4) + x.movedTo(5), "3 123444");
    }

    private static void refusedRainKeepsThePlan() {
        Edge.Steps kept = Edge.behind(many(7), x -> x.rain(120, 121));
        Edge.refuses("51 too many behind a plan", kept, x -> x.rain(0, 5760), S);
        Edge.answers("52 the plan is kept behind a refused one", Edge.behind(kept,
                x -> Check.outcome(() -> x.rain(0, 5760))),
                x -> x.movedTo(2) + " " + x.movedTo(0), "1 -1");
        Edge.answers("19 it can be done behind a refused one", Edge.behind(kept,
                x -> Check.outcome(() -> x.rain(5, 5))), x -> x.moveAll(), 1);
    }

    private static void goesToTheLeastStage() {
        for (int i = 0; i < 16; i++) {
            int open = i | 1;
            int least = (open & 2) == 0 ? 1 : (open & 4) == 0 ? 2 : (open & 8) == 0 ? 3 : 4;
            Edge.answers("52 the covered stage with the least number", Edge.behind(ONE, x -> {
                for (int stage = 0; stage < 4; stage++) {
                    x.setOpen(stage, (open >> stage & 1) != 0);
                }
                x.rain(100, 101);
            }), x -> x.movedTo(0), least);
        }
    }

    /** Whether the act of ONE finds room beside an act that stays on the stage 1. */
    private static void beside(String sentence, int begin, int length, int check, int due) {
        Edge.answers(sentence, Edge.behind(ONE, x -> {
            x.act(1, begin, length, check, 1);
            x.rain(100, 101);
        }), x -> x.movedTo(0), due);
    }

    private static void piecesThatStay() {
        beside("52 a piece that stays begins with the end", 150, 50, 0, 1);
        beside("52 a piece that stays begins a minute ahead of the end", 149, 50, 0, 2);
        beside("52 a check that begins with the end", 210, 50, 60, 1);
        beside("52 a check that begins a minute ahead of the end", 209, 50, 60, 2);
        beside("52 a piece that stays ends with the begin of the check", 60, 10, 0, 1);
        beside("52 a piece that stays ends a minute behind it", 60, 11, 0, 2);
        beside("52 a piece that stays ends with the begin", 90, 10, 0, 2);
        Edge.answers("52 acts that stay may meet each other", Edge.behind(ONE, x -> {
            x.act(1, 150, 50, 0, 1);
            x.act(1, 150, 50, 0, 1);
            x.rain(100, 101);
        }), x -> x.movedTo(0), 1);
        Edge.answers("52 a member in common does not matter", Edge.behind(ONE, x -> {
            x.act(2, 100, 50, 0, 1);
            x.rain(100, 101);
        }), x -> x.movedTo(0), 1);
        Edge.answers("52 an act that was dropped makes room", Edge.behind(ONE, x -> {
            x.act(1, 100, 50, 0, 1);
            x.drop(1);
            x.rain(100, 101);
        }), x -> x.movedTo(0), 1);
    }

    private static void piecesThatAreMoved() {
        Edge.Steps two = x -> {
            x.setOpen(0, true);
            x.setOpen(3, true);
            x.act(0, 100, 50, 0, 1);
            x.act(3, 160, 50, 10, 2);
        };
        Edge.answers("52 two that are moved, one behind the other",
                Edge.behind(two, x -> x.rain(0, 5760)),
                x -> x.movedTo(0) + " " + x.movedTo(1), "1 1");
        Edge.Steps meeting = Edge.behind(two, x -> {
            x.drop(1);
            x.act(3, 160, 50, 11, 2);
        });
        Edge.answers("52 two that are moved, and have a minute in common",
                Edge.behind(meeting, x -> x.rain(0, 5760)),
                x -> x.movedTo(0) + " " + x.movedTo(1), "1 2");
        Edge.answers("52 one of them alone is met", Edge.behind(meeting, x -> x.rain(150, 151)),
                x -> x.movedTo(0) + " " + x.movedTo(1), "-1 -1");
        Edge.answers("52 one of them alone is met, at its begin",
                Edge.behind(meeting, x -> x.rain(160, 161)),
                x -> x.movedTo(0) + " " + x.movedTo(1), "-1 1");
    }

    private static void fewestLeftOut() {
        Edge.Steps three = x -> {
            x.setOpen(0, true);
            x.setOpen(1, true);
            x.setOpen(2, true);
            x.act(0, 100, 100, 0, 1);
            x.act(1, 100, 50, 0, 1);
            x.act(2, 150, 50, 0, 1);
        };
        Edge.answers("51 one is left out, not two", three, x -> x.rain(0, 5760), 1);
        Edge.answers("52 so the least number is left out",
                Edge.behind(three, x -> x.rain(0, 5760)),
                x -> x.movedTo(0) + " " + x.movedTo(1) + " " + x.movedTo(2), "4 3 3");
        Edge.answers("51 none is left out with one more stage",
                Edge.behind(three, x -> x.setOpen(2, false)), x -> x.rain(0, 5760), 0);
        Edge.answers("51 none is met", three, x -> x.rain(200, 5760), 0);
    }

    private static void leastActFirst() {
        Edge.Steps two = x -> {
            x.setOpen(0, true);
            x.setOpen(1, true);
            x.setOpen(2, true);
            x.act(2, 100, 50, 0, 1);
            x.act(0, 100, 50, 0, 1);
        };
        Edge.answers("52 to be left out comes behind all stages",
                Edge.behind(two, x -> x.rain(0, 5760)),
                x -> x.movedTo(0) + " " + x.movedTo(1), "3 4");
        Edge.Steps free = Edge.behind(two, x -> x.setOpen(1, false));
        Edge.answers("52 the least act goes to the least stage",
                Edge.behind(free, x -> x.rain(0, 5760)),
                x -> x.movedTo(0) + " " + x.movedTo(1), "1 3");
        Edge.Steps makesRoom = Edge.behind(free, x -> x.act(3, 140, 50, 0, 1));
        Edge.answers("52 then the next one",
                Edge.behind(makesRoom, x -> x.rain(0, 5760)),
                x -> x.movedTo(0) + " " + x.movedTo(1), "1 4");
        Edge.Steps needsRoom = x -> {
            x.setOpen(0, true);
            x.setOpen(1, true);
            x.act(0, 100, 50, 0, 1);
            x.act(1, 100, 90, 0, 1);
            x.act(3, 150, 50, 0, 1);
        };
        Edge.answers("52 the least act makes room, if so fewer are left out",
                Edge.behind(needsRoom, x -> x.rain(0, 149)),
                x -> x.movedTo(0) + " " + x.movedTo(1) + " " + x.movedTo(2), "3 2 -1");
    }

    private static void noStageIsCovered() {
        for (int i = 0; i <= 6; i++) {
            int acts = i;
            Edge.answers("51 all that are met are left out", Edge.behind(many(acts), x -> {
                x.setOpen(1, true);
                x.setOpen(2, true);
                x.setOpen(3, true);
            }), x -> x.rain(0, 5760), acts);
        }
    }

    private static void keptTillTheNextOne() {
        Edge.answers("52 NONE if no plan is kept", ONE, x -> x.movedTo(0), -1);
        Edge.answers("52 the next plan is another one", Edge.behind(ONE, x -> {
            x.rain(100, 101);
            x.rain(200, 201);
        }), x -> x.movedTo(0), -1);
        Edge.answers("19 a plan without acts is a plan", Edge.behind(ONE, x -> {
            x.rain(100, 101);
            x.rain(200, 201);
        }), x -> x.moveAll(), 0);
        Edge.answers("51 questions change nothing of it", Edge.behind(ONE, x -> {
            x.rain(100, 101);
            Probe.ACTS.look(x);
            Probe.EVENINGS.look(x);
        }), x -> x.movedTo(0), 1);
    }

    private static void keptTillAnyChange() {
        Edge.Steps plan = Edge.behind(Edge.FULL, x -> x.rain(600, 720));
        Edge.answers("52 it is kept", plan, x -> x.movedTo(1), 2);
        String[] names = ChangeCalls.names();
        for (int i = 0; i < names.length; i++) {
            int call = i;
            Edge.Steps changed = Edge.behind(plan, x -> ChangeCalls.make(x, call));
            Edge.answers("51 kept till " + names[call] + " throws no exception", changed,
                    x -> x.movedTo(1), -1);
            Edge.answers("19 no plan is kept behind " + names[call], changed,
                    x -> Check.outcome(() -> x.moveAll()), "throws." + S);
            Edge.Steps refused = Edge.behind(plan, x -> ChangeCalls.refuse(x, call));
            Edge.answers("51 kept, if " + names[call] + " throws one", refused,
                    x -> x.movedTo(1), 2);
        }
        Edge.answers("51 kept till undo() throws no exception",
                Edge.behind(plan, x -> x.undo()), x -> x.movedTo(1), -1);
        Edge.Steps nothing = x -> x.rain(0, 1);
        Edge.refuses("27 nothing to undo, and a plan is kept", nothing, x -> x.undo(), S);
        Edge.answers("51 kept, if undo() throws one",
                Edge.behind(nothing, x -> Check.outcome(() -> x.undo())), x -> x.moveAll(), 0);
        Edge.answers("51 till moveAll(), too", Edge.behind(plan, x -> x.moveAll()),
                x -> x.movedTo(1), -1);
    }

    private static void moveAllWithoutAPlan() {
        Edge.refuses("19 no plan was made", ONE, x -> x.moveAll(), S);
        Edge.refuses("19 no plan was made, without acts", Edge.NEW, x -> x.moveAll(), S);
        Edge.refuses("19 the plan was done", Edge.behind(ONE, x -> {
            x.rain(100, 101);
            x.moveAll();
        }), x -> x.moveAll(), S);
        Edge.refuses("27 undo() brings no plan back", Edge.behind(ONE, x -> {
            x.rain(100, 101);
            x.moveAll();
            x.undo();
        }), x -> x.moveAll(), S);
        Edge.refuses("27 undo() keeps no plan", Edge.behind(ONE, x -> {
            x.rain(100, 101);
            x.undo();
        }), x -> x.moveAll(), S);
    }

    private static void moveAll() {
        Edge.Steps two = x -> {
            x.setOpen(0, true);
            x.setOpen(1, true);
            x.setOpen(2, true);
            x.act(0, 100, 50, 30, 3);
            x.act(1, 100, 50, 20, 5);
            x.act(1, 400, 50, 0, 5);
            x.wish(8, 0, 6);
            x.wish(8, 1, 7);
            x.rain(100, 101);
        };
        Edge.answers("19 how many acts were moved, not left out", two, x -> x.moveAll(), 1);
        Edge.Steps done = Edge.behind(two, x -> x.moveAll());
        int[] due = {3, 100, 50, 30, 3, 6, 1};
        for (int i = 0; i <= 6; i++) {
            int what = i;
            Edge.answers("19 it gets its stage, all else stays: " + what, done,
                    x -> x.actAt(0, what), due[what]);
        }
        Edge.refuses("19 acts that are left out are dropped", done, x -> x.actAt(1, 0), Edge.I);
        Edge.answers("19 acts that are not met stay", done, x -> x.actAt(2, 0), 1);
        Edge.answers("31 one act is fewer", done, x -> x.acts(), 2);
        Edge.answers("19 the number is free again", done, x -> x.act(3, 700, 50, 0, 1), 1);
        Edge.answers("27 moveAll() is one change", done, x -> x.undo(), 7);
        Edge.answers("27 all acts are back", Edge.behind(done, x -> x.undo()),
                x -> x.actAt(0, 0) + " " + x.actAt(1, 0) + " " + x.actAt(1, 5), "0 1 7");
    }
}
