/** The edges of promise 27 and section 10: changes, and how many of them can be undone. */
public final class UndoEdgeTests {
    private static final String S = Edge.S;

    public static void main(String[] args) {
        eachNumberOfChanges();
        ninthChange();
        undoIsNoChange();
        changesBehindUndo();
        ringGoesRound();
        eachChangeCounts();
        eachChangeIsUndone();
        eachPlaceIsUndone();
        numberGivenAgainIsUndone();
        changesThatChangeNothing();
        refusedCallsAreNoChanges();
        questionsAreNoChanges();
        rainIsNoChange();
        Check.end("UndoEdgeTests");
    }

    /** As many changes, each of which the price of the day 0 tells. */
    private static Edge.Steps changes(int many) {
        return x -> {
            for (int coins = 1; coins <= many; coins++) {
                x.setPrice(0, coins);
            }
        };
    }

    private static Edge.Steps undone(int many, int times) {
        return Edge.behind(changes(many), x -> {
            for (int i = 0; i < times; i++) {
                x.undo();
            }
        });
    }

    private static void eachNumberOfChanges() {
        Edge.refuses("27 there is none", Edge.NEW, x -> x.undo(), S);
        for (int i = 1; i <= 8; i++) {
            int many = i;
            for (int j = 0; j < many; j++) {
                int times = j;
                Edge.answers("27 how many can still be undone: " + many + " changes",
                        undone(many, times), x -> x.undo(), many - times - 1);
                Edge.answers("27 all is as ahead of the change", undone(many, times + 1),
                        x -> x.setPrice(0, 100), many == times + 1 ? 20 : many - times - 1);
            }
            Edge.refuses("27 none is left of " + many, undone(many, many), x -> x.undo(), S);
        }
    }

    private static void ninthChange() {
        int[] manys = {8, 9, 10, 15, 16, 17, 24, 25, 100, 200};
        for (int i = 0; i < manys.length; i++) {
            int many = manys[i];
            Edge.answers("27 the latest 8 can be undone, of " + many, changes(many),
                    x -> x.undo(), 7);
            Edge.answers("27 the eighth one, of " + many, undone(many, 7), x -> x.undo(), 0);
            Edge.refuses("27 the ninth one can't be undone, of " + many, undone(many, 8),
                    x -> x.undo(), S);
            Edge.answers("27 as ahead of the latest 8, of " + many, undone(many, 8),
                    x -> x.setPrice(0, 400), many == 8 ? 20 : many - 8);
        }
    }

    private static void undoIsNoChange() {
        Edge.answers("10 undo() is no change itself", undone(3, 1),
                x -> x.undo() + " " + x.setPrice(0, 100), "1 1");
        Edge.refuses("10 what was undone can't be undone again", undone(1, 1), x -> x.undo(), S);
    }

    private static void changesBehindUndo() {
        Edge.Steps mixed = Edge.behind(undone(8, 3), x -> x.setPrice(0, 100));
        Edge.answers("27 five were left, and one is new", mixed, x -> x.undo(), 5);
        Edge.answers("27 the new one is undone first", mixed,
                x -> x.undo() + " " + x.setPrice(0, 200), "5 5");
        Edge.answers("27 then the latest that was not undone", mixed,
                x -> x.undo() + x.undo() + " " + x.setPrice(0, 200), "9 4");
        Edge.Steps full = Edge.behind(undone(20, 3), x -> {
            for (int coins = 101; coins <= 104; coins++) {
                x.setPrice(0, coins);
            }
        });
        Edge.answers("27 five were left, and four are new", full, x -> x.undo(), 7);
        Edge.answers("27 the oldest of eight that is left", Edge.behind(full, x -> {
            for (int i = 0; i < 7; i++) {
                x.undo();
            }
        }), x -> x.undo() + " " + x.setPrice(0, 200), "0 13");
    }

    private static void ringGoesRound() {
        for (int i = 1; i <= 24; i++) {
            int many = i;
            Edge.answers("27 change, undo and change again, from " + many + " on",
                    Edge.behind(undone(many, 1), x -> {
                        x.setPrice(0, 300);
                        x.setPrice(0, 301);
                        x.undo();
                    }), x -> x.setPrice(0, 302) + " " + x.undo() + " " + x.undo() + " "
                            + x.setPrice(0, 303),
                    "300 " + Math.min(7, many) + " " + Math.min(6, many - 1) + " "
                            + (many == 1 ? 20 : many - 1));
        }
    }

    private static void eachChangeCounts() {
        String[] names = ChangeCalls.names();
        for (int i = 0; i < names.length; i++) {
            int call = i;
            Edge.answers("10 " + names[call] + " works", Edge.FULL,
                    x -> ChangeCalls.make(x, call).startsWith("throws."), false);
            Edge.Steps seven = Edge.behind(Edge.FULL, x -> {
                x.undo();
                x.undo();
                ChangeCalls.make(x, call);
            });
            Edge.answers("10 " + names[call] + " is one change", seven, x -> x.undo(), 6);
        }
        Edge.answers("10 moveAll is one change", Edge.behind(Edge.FULL, x -> {
            x.undo();
            x.undo();
            x.rain(600, 720);
            x.moveAll();
        }), x -> x.undo(), 6);
    }

    private static void eachChangeIsUndone() {
        String[] names = ChangeCalls.names();
        Edge.Steps withoutPlan = Edge.behind(Edge.FULL, x -> {
            x.setPrice(3, 20);
            x.undo();
        });
        for (int i = 0; i < names.length; i++) {
            int call = i;
            for (Probe probe : Probe.values()) {
                // Of eight changes ahead of it one is given up for it, so seven are left.
                if (probe != Probe.CHANGES) {
                    Festivalgrounds due = Edge.made(withoutPlan);
                    Festivalgrounds x = Edge.made(withoutPlan);
                    ChangeCalls.make(x, call);
                    x.undo();
                    Check.same("27 behind " + names[call] + " " + probe + " is as ahead of it",
                            probe.look(x), probe.look(due));
                }
            }
        }
    }

    /** A change at one place of several, and its undo(): the probe looks as ahead of it. */
    private static void undoneAt(String call, int least, int most, Probe probe,
            Edge.NumberCall change) {
        Edge.Steps begin = Edge.behind(Edge.FULL, x -> x.setPrice(3, 20));
        String due = probe.look(Edge.made(begin));
        for (int place = least; place <= most; place++) {
            Festivalgrounds x = Edge.made(begin);
            int at = place;
            Check.same("27 " + call + " at " + place + " works",
                    Check.outcome(() -> change.on(x, at)).startsWith("throws."), false);
            Check.same("27 " + call + " at " + place + " can be undone", x.undo(), 7);
            Check.same("27 all is as ahead of " + call + " at " + place, probe.look(x), due);
        }
    }

    private static void eachPlaceIsUndone() {
        undoneAt("setOpen", 0, 7, Probe.TIME_AND_STAGES, (x, n) -> x.setOpen(n / 2, n % 2 == 0));
        undoneAt("setWay", 1, 3, Probe.TIME_AND_STAGES, (x, n) -> x.setWay(0, n, 1));
        undoneAt("setWay", 2, 3, Probe.TIME_AND_STAGES, (x, n) -> x.setWay(n, 1, 60));
        undoneAt("setWay", 3, 3, Probe.TIME_AND_STAGES, (x, n) -> x.setWay(2, n, 60));
        undoneAt("act", 0, 3, Probe.ACTS, (x, n) -> x.act(n, 2000, 60, 60, 4095));
        undoneAt("drop", 0, 3, Probe.ACTS, (x, n) -> x.drop(n));
        undoneAt("drop", 0, 3, Probe.WISHES, (x, n) -> x.drop(n));
        undoneAt("wish", 0, 47, Probe.WISHES, (x, n) -> x.wish(n / 4, n % 4, 7));
        undoneAt("wish", 0, 11, Probe.WISHES, (x, n) -> x.wish(n, 5, 7));
        undoneAt("setGate", 0, 2, Probe.WAYS_OUT, (x, n) -> x.setGate(n, 50));
        undoneAt("setReach", 0, 11, Probe.WAYS_OUT, (x, n) -> x.setReach(n / 4, n % 4, 29));
        undoneAt("setCrowd", 0, 3, Probe.WAYS_OUT, (x, n) -> x.setCrowd(n, 1999));
        undoneAt("setServing", 1, 10, Probe.BARS, (x, n) -> x.setServing(n));
        undoneAt("join", 0, 2, Probe.BARS, (x, n) -> x.join(n, 8));
        undoneAt("join", 0, 2, Probe.WAITS, (x, n) -> x.join(n, 11));
        undoneAt("leave", 0, 3, Probe.BARS, (x, n) -> x.leave(n));
        undoneAt("leave", 0, 3, Probe.WAITS, (x, n) -> x.leave(n));
        undoneAt("pass", 1, 60, Probe.BARS, (x, n) -> x.pass(n));
        undoneAt("pass", 1, 60, Probe.WAITS, (x, n) -> x.pass(n));
        undoneAt("setNeed", 0, 23, Probe.HELPERS, (x, n) -> x.setNeed(n, 8));
        undoneAt("setShift", 2, 10, Probe.HELPERS, (x, n) -> x.setShift(n));
        undoneAt("setLoad", 0, 23, Probe.POWER, (x, n) -> x.setLoad(n, 23, 111));
        undoneAt("setGenerator", 0, 3, Probe.POWER, (x, n) -> x.setGenerator(n, 200, 1, 1));
        undoneAt("setGenerator", 0, 3, Probe.POWER, (x, n) -> x.setGenerator(n, 40, 99, 1));
        undoneAt("setGenerator", 0, 3, Probe.POWER, (x, n) -> x.setGenerator(n, 40, 1, 99));
        undoneAt("setPrice", 0, 3, Probe.TICKETS, (x, n) -> x.setPrice(n, 499));
        undoneAt("ticket", 12, 19, Probe.TICKETS, (x, n) -> x.ticket(n / 4, n % 4, 30));
        undoneAt("ticket", 24, 47, Probe.TICKETS, (x, n) -> x.ticket(n / 4, n % 4, 30));
        undoneAt("refund", 0, 1, Probe.TICKETS, (x, n) -> x.refund(n, 0));
        undoneAt("resell", 6, 11, Probe.TICKETS, (x, n) -> x.resell(0, n, 0));
        undoneAt("payBands", 0, 11, Probe.TICKETS, (x, n) -> x.payBands());
        undoneAt("lose", 0, 99, Probe.THINGS, (x, n) -> x.lose(n, n % 4));
        undoneAt("find", -1, 3, Probe.THINGS, (x, n) -> x.find(n));
        for (int i = 0; i < 12; i++) {
            int musician = i;
            Edge.answers("27 what a musician got goes back", x -> {
                x.act(0, 100, 50, 0, 1 << musician);
                x.ticket(0, 0, 30);
                x.payBands();
                x.undo();
            }, x -> x.balance(2, musician) + " " + x.balance(0, 0), "0 20");
        }
    }

    private static void numberGivenAgainIsUndone() {
        for (int i = 0; i < 16; i++) {
            int act = i;
            Edge.Steps again = x -> {
                for (int other = 0; other < 16; other++) {
                    x.act(1, 1000 + 100 * other, 50 + other, 10 + other, 9 + other);
                }
                x.wish(7, act, 5);
                x.drop(act);
                x.act(2, 5000, 200, 3, 6);
                x.wish(8, act, 4);
                x.undo();
                x.undo();
                x.undo();
            };
            int[] due = {1, 1000 + 100 * act, 50 + act, 10 + act, 9 + act, 5, 1};
            for (int j = 0; j <= 6; j++) {
                int what = j;
                Edge.answers("27 an act whose number was given again is back: " + what, again,
                        x -> x.actAt(act, what), due[what]);
            }
            Edge.answers("27 its wishes are back", again,
                    x -> x.wish(7, act, 1) + " " + x.wish(8, act, 1), "5 0");
        }
    }

    private static void changesThatChangeNothing() {
        String[] names = ChangeCalls.names();
        for (int i = 0; i < names.length; i++) {
            int call = i;
            if (!ChangeCalls.hasSame(call)) {
                continue;
            }
            Edge.Steps seven = Edge.behind(Edge.FULL, x -> {
                x.undo();
                x.undo();
                ChangeCalls.makeSame(x, call);
            });
            Edge.answers("10 " + names[call] + " is a change, even if nothing is different",
                    seven, x -> x.undo(), 6);
        }
        Edge.answers("10 pass() without lines is a change", x -> x.pass(1), x -> x.undo(), 0);
        Edge.answers("10 payBands() that pays nothing is a change", x -> x.payBands(),
                x -> x.undo(), 0);
        Edge.answers("10 moveAll() of no acts is a change", x -> {
            x.rain(0, 1);
            x.moveAll();
        }, x -> x.undo(), 0);
    }

    private static void refusedCallsAreNoChanges() {
        String[] names = ChangeCalls.names();
        for (int i = 0; i < names.length; i++) {
            int call = i;
            Edge.answers("10 " + names[call] + " that throws", Edge.FULL,
                    x -> ChangeCalls.refuse(x, call).startsWith("throws."), true);
            Edge.answers("10 " + names[call] + " that throws is no change",
                    Edge.behind(Edge.FULL, x -> {
                        x.undo();
                        x.undo();
                        ChangeCalls.refuse(x, call);
                    }), x -> x.undo(), 5);
        }
    }

    private static void questionsAreNoChanges() {
        Probe[] looking = {Probe.ACTS, Probe.CLASHES, Probe.PRICES, Probe.EVENINGS,
            Probe.LISTENERS};
        for (Probe probe : looking) {
            Edge.answers("10 questions are no changes: " + probe, x -> probe.look(x),
                    x -> x.undo(), "throws." + S);
        }
        Edge.refuses("10 questions are no changes", x -> {
            x.dateAt(0, 0);
            x.walk(0, 1);
            x.firstIn(0, 0, 1);
            x.outBy();
            x.cut();
            x.line(0);
            x.waitOf(0);
            x.waits(true);
            x.served();
            x.helpers(0);
            x.proof();
            x.cost();
            x.isOn(0);
            x.ticketAt(0, 0);
            x.balance(0, 0);
            x.lost();
            x.checksum();
            x.errors();
        }, x -> x.undo(), S);
    }

    private static void rainIsNoChange() {
        Edge.refuses("10 rain() is no change", x -> x.rain(0, 1), x -> x.undo(), S);
        Edge.answers("27 undo() undoes the change ahead of rain()", x -> {
            x.setPrice(0, 7);
            x.rain(0, 1);
            x.undo();
        }, x -> x.setPrice(0, 1), 20);
    }
}
