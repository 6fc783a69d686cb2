/** The edges of promises 11 to 14 and 42 to 46: lines at bars. */
public final class BarEdgeTests {
    private static final String I = Edge.I;
    private static final String A = Edge.A;
    private static final String S = Edge.S;
    private static final String N = Edge.N;

    public static void main(String[] args) {
        numbers();
        serving();
        servingChangesWhileServed();
        join();
        joinBehindThoseWhoAreLeft();
        joinAgainAndAgain();
        oneLineAtMost();
        leave();
        leaveFromEachPlace();
        passOneMinute();
        passSixtyMinutes();
        passAtOnce();
        line();
        front();
        waitOf();
        waits();
        waitsByOneLine();
        served();
        Check.end("BarEdgeTests");
    }

    private static void numbers() {
        Edge.range("12 bar: 0 to 2", Edge.FULL, 0, 2, I, (x, n) -> x.join(n, 11));
        Edge.range("12 visitor: 0 to 11", Edge.NEW, 0, 11, I, (x, n) -> x.join(1, n));
        Edge.refusesOutside("12 visitor: 0 to 11", Edge.FULL, 0, 11, I, (x, n) -> x.join(1, n));
        Edge.refusesOutside("13 visitor: 0 to 11", Edge.FULL, 0, 11, I, (x, n) -> x.leave(n));
        Edge.refusesOutside("14 minutes: 1 to 60", Edge.FULL, 1, 60, A, (x, n) -> x.pass(n));
        Edge.range("42 bar: 0 to 2", Edge.FULL, 0, 2, I, (x, n) -> x.line(n));
        Edge.range("43 bar: 0 to 2", Edge.FULL, 0, 2, I, (x, n) -> x.front(n, false));
        Edge.range("43 bar: 0 to 2", Edge.FULL, 0, 2, I, (x, n) -> x.front(n, true));
        Edge.range("44 visitor: 0 to 11", Edge.FULL, 0, 11, I, (x, n) -> x.waitOf(n));
    }

    private static void serving() {
        Edge.keeps("11 minutes: 1 to 10", Edge.FULL, 1, 10, (x, n) -> x.setServing(n),
                x -> x.setServing(5));
        for (int i = 3; i < 33; i++) {
            int minutes = i / 3;
            int bar = i % 3;
            Edge.Steps one = x -> {
                x.setServing(minutes);
                x.join(bar, 0);
                x.join(bar, 1);
            };
            Edge.answers("11 to serve takes " + minutes + " at the bar " + bar, one,
                    x -> x.front(bar, true), minutes);
            Edge.answers("44 the next one waits as long", one, x -> x.waitOf(1), minutes);
            Edge.answers("14 not served a minute earlier", one, x -> {
                int before = minutes == 1 ? 0 : x.pass(minutes - 1);
                return before + " " + x.pass(1);
            }, "0 1");
        }
    }

    private static void servingChangesWhileServed() {
        Edge.Steps three = x -> {
            x.setServing(5);
            x.join(1, 0);
            x.join(1, 1);
            x.join(1, 2);
            x.pass(1);
        };
        Edge.answers("11 who is being served goes on, if it gets shorter",
                Edge.behind(three, x -> x.setServing(1)), x -> x.front(1, true), 4);
        Edge.answers("11 who is being served goes on, if it gets longer",
                Edge.behind(three, x -> x.setServing(10)), x -> x.front(1, true), 4);
        Edge.answers("11 the next ones take what is told now",
                Edge.behind(three, x -> x.setServing(10)),
                x -> x.waitOf(1) + " " + x.waitOf(2), "4 14");
        Edge.answers("11 who begins then takes what is told now", Edge.behind(three, x -> {
            x.setServing(10);
            x.pass(4);
        }), x -> x.front(1, false) + " " + x.front(1, true), "1 10");
        Edge.answers("11 who joins then at another bar, too",
                Edge.behind(three, x -> x.setServing(10)), x -> {
                    x.join(0, 5);
                    return x.front(0, true);
                }, 10);
        Edge.answers("11 the next one behind who leaves, too", Edge.behind(three, x -> {
            x.setServing(10);
            x.leave(0);
        }), x -> x.front(1, false) + " " + x.front(1, true), "1 10");
        Edge.answers("11 a line with nobody keeps nothing", x -> {
            x.setServing(10);
            x.join(1, 0);
            x.leave(0);
            x.setServing(2);
            x.join(1, 0);
        }, x -> x.front(1, true), 2);
    }

    private static void join() {
        for (int i = 0; i < 3; i++) {
            int bar = i;
            Edge.answers("12 an empty line: the wait is 0", Edge.NEW, x -> x.join(bar, 11), 0);
            Edge.answers("12 an empty line: begins to be served at once",
                    x -> x.join(bar, 11), x -> x.front(bar, false) + " " + x.front(bar, true),
                    "11 3");
            Edge.Steps all = x -> {
                for (int visitor = 0; visitor < 11; visitor++) {
                    x.join(bar, visitor);
                }
            };
            Edge.answers("12 the last one of twelve, at its end", all, x -> x.join(bar, 11), 33);
            Edge.answers("42 all twelve are in one line", Edge.behind(all, x -> x.join(bar, 11)),
                    x -> x.line(bar), 12);
            Edge.answers("42 the other lines are empty", Edge.behind(all, x -> x.join(bar, 11)),
                    x -> x.line((bar + 1) % 3) + x.line((bar + 2) % 3), 0);
            Edge.answers("12 another line knows nothing of it", all,
                    x -> x.join((bar + 1) % 3, 11), 0);
        }
        Edge.answers("12 the longest wait", x -> {
            x.setServing(10);
            for (int visitor = 11; visitor > 0; visitor--) {
                x.join(2, visitor);
            }
        }, x -> x.join(2, 0), 110);
        Edge.answers("12 less what was served of the first one", x -> {
            x.join(0, 0);
            x.pass(2);
        }, x -> x.join(0, 1), 1);
    }

    private static void joinBehindThoseWhoAreLeft() {
        for (int i = 1; i <= 11; i++) {
            int many = i;
            for (int j = 0; j <= many; j++) {
                int gone = j;
                int wait = 3 * (many - gone);
                Edge.answers("12 at its end, " + gone + " of " + many + " were served", x -> {
                    for (int visitor = 0; visitor < many; visitor++) {
                        x.join(1, visitor);
                    }
                    for (int visitor = 0; visitor < gone; visitor++) {
                        x.pass(3);
                    }
                }, x -> x.join(1, 11) + " " + x.line(1), wait + " " + (many - gone + 1));
                Edge.answers("12 at its end, " + gone + " of " + many + " left", x -> {
                    for (int visitor = 0; visitor < many; visitor++) {
                        x.join(2, visitor);
                    }
                    for (int visitor = 0; visitor < gone; visitor++) {
                        x.leave(visitor);
                    }
                }, x -> x.join(2, 11) + " " + x.line(2), wait + " " + (many - gone + 1));
                Edge.answers("45 one line, " + gone + " of " + many + " left", x -> {
                    for (int visitor = 0; visitor < many; visitor++) {
                        x.join(0, visitor);
                    }
                    for (int visitor = 0; visitor < gone; visitor++) {
                        x.leave(visitor);
                    }
                }, x -> x.waits(true), oneLine(many - gone - 1));
            }
        }
    }

    /** The waits of as many behind the one who is served, by one line: two, then three a time. */
    private static int oneLine(int many) {
        int sum = 0;
        for (int i = 2; i < many; i++) {
            sum += 3 * ((i + 1) / 3);
        }
        return sum;
    }

    private static void joinAgainAndAgain() {
        Edge.answers("12 more than twelve times, by turns", x -> {
            for (int i = 0; i < 40; i++) {
                x.join(i % 3, i % 12);
                x.join((i + 1) % 3, (i + 5) % 12);
                x.leave(i % 12);
                x.leave((i + 5) % 12);
            }
            for (int visitor = 11; visitor > 0; visitor--) {
                x.join(1, visitor);
            }
        }, x -> x.join(1, 0) + " " + x.waitOf(1) + " " + x.waitOf(11) + " " + x.line(1),
                "33 30 0 12");
        Edge.answers("12 who left joins at the end", x -> {
            x.join(1, 0);
            x.join(1, 1);
            x.join(1, 2);
            x.leave(0);
        }, x -> x.join(1, 0) + " " + x.waitOf(1) + " " + x.waitOf(2), "6 0 3");
    }

    private static void oneLineAtMost() {
        for (int i = 0; i < 3; i++) {
            int bar = i;
            Edge.refuses("12 the first one is in a line", Edge.FULL, x -> x.join(bar, 0), S);
            Edge.refuses("12 the last one is in a line", Edge.FULL, x -> x.join(bar, 2), S);
            Edge.refuses("12 one at another bar is in a line", Edge.FULL, x -> x.join(bar, 3), S);
            Edge.answers("12 not any more behind leave()", Edge.behind(Edge.FULL, x -> x.leave(2)),
                    x -> x.line(bar) + x.join(bar, 2) >= 0, true);
            Edge.answers("12 not any more when served", x -> {
                x.join(bar, 4);
                x.pass(3);
            }, x -> x.join(bar, 4), 0);
            Edge.refuses("12 still, a minute earlier", x -> {
                x.join(bar, 4);
                x.pass(2);
            }, x -> x.join(bar, 4), S);
        }
    }

    private static void leave() {
        Edge.refuses("13 in no line, without lines", Edge.NEW, x -> x.leave(0), S);
        Edge.refuses("13 in no line", Edge.FULL, x -> x.leave(4), S);
        Edge.refuses("13 in no line, the last visitor", Edge.FULL, x -> x.leave(11), S);
        Edge.refuses("13 in no line any more", Edge.behind(Edge.FULL, x -> x.leave(0)),
                x -> x.leave(0), S);
        Edge.refuses("13 in no line when served", x -> {
            x.join(0, 0);
            x.pass(3);
        }, x -> x.leave(0), S);
        for (int i = 0; i < 36; i++) {
            int bar = i / 12;
            int visitor = i % 12;
            Edge.answers("13 the bar", x -> x.join(bar, visitor), x -> x.leave(visitor), bar);
            Edge.answers("13 the line is empty", x -> {
                x.join(bar, visitor);
                x.leave(visitor);
            }, x -> x.line(bar), 0);
            Edge.answers("13 without being served", x -> {
                x.join(bar, visitor);
                x.pass(2);
                x.leave(visitor);
            }, x -> x.served() + x.pass(60), 0);
        }
    }

    private static String fronts(Festivalgrounds x, int bar) {
        return Check.outcome(() -> x.front(bar, false)) + " "
                + Check.outcome(() -> x.front(bar, true)) + " " + x.line(bar);
    }

    private static void leaveFromEachPlace() {
        Edge.Steps three = x -> {
            x.join(2, 5);
            x.join(2, 6);
            x.join(2, 7);
            x.pass(2);
        };
        Edge.answers("13 from the front: the next one begins to be served",
                Edge.behind(three, x -> x.leave(5)), x -> fronts(x, 2), "6 3 2");
        Edge.answers("13 from the middle: the first one goes on",
                Edge.behind(three, x -> x.leave(6)), x -> fronts(x, 2), "5 1 2");
        Edge.answers("13 from the end: the first one goes on",
                Edge.behind(three, x -> x.leave(7)), x -> fronts(x, 2), "5 1 2");
        Edge.answers("13 from the front twice", Edge.behind(three, x -> {
            x.leave(5);
            x.pass(1);
            x.leave(6);
        }), x -> fronts(x, 2), "7 3 1");
        Edge.answers("13 from the middle: who is behind waits less",
                Edge.behind(three, x -> x.leave(6)), x -> x.waitOf(7), 1);
        Edge.answers("13 the last one leaves", Edge.behind(three, x -> {
            x.leave(6);
            x.leave(5);
            x.leave(7);
        }), x -> fronts(x, 2),
                "throws.NoSuchElementException throws.NoSuchElementException 0");
    }

    private static void passOneMinute() {
        Edge.answers("14 minutes: 1 is taken, without lines", Edge.NEW, x -> x.pass(1), 0);
        Edge.answers("14 minutes: 60 is taken, without lines", Edge.NEW, x -> x.pass(60), 0);
        Edge.Steps two = x -> {
            x.join(0, 0);
            x.join(0, 1);
        };
        Edge.answers("14 one minute less", two, x -> x.pass(1) + " " + fronts(x, 0), "0 0 2 2");
        Edge.answers("14 two minutes less", two, x -> x.pass(2) + " " + fronts(x, 0), "0 0 1 2");
        Edge.answers("14 none left: goes out, and the next one begins", two,
                x -> x.pass(3) + " " + fronts(x, 0), "1 1 3 1");
        Edge.answers("14 one more minute", two, x -> x.pass(4) + " " + fronts(x, 0), "1 1 2 1");
        Edge.answers("14 all are served", two, x -> x.pass(6) + " " + x.line(0), "2 0");
        Edge.answers("14 minutes of an empty line do not count", x -> {
            x.pass(2);
            x.join(0, 0);
        }, x -> x.pass(2) + " " + x.pass(1), "0 1");
    }

    private static void passSixtyMinutes() {
        Edge.Steps slow = x -> {
            x.setServing(10);
            for (int visitor = 0; visitor < 12; visitor++) {
                x.join(1, visitor);
            }
        };
        Edge.answers("14 60 minutes serve six by 10", slow,
                x -> x.pass(60) + " " + fronts(x, 1), "6 6 10 6");
        Edge.answers("14 59 minutes serve five by 10", slow,
                x -> x.pass(59) + " " + fronts(x, 1), "5 5 1 7");
        Edge.answers("14 120 minutes serve all", slow,
                x -> x.pass(60) + x.pass(60) + " " + x.line(1), "12 0");
        Edge.Steps fast = x -> {
            x.setServing(1);
            for (int visitor = 0; visitor < 12; visitor++) {
                x.join(1, visitor);
            }
        };
        Edge.answers("14 11 minutes serve eleven by 1", fast,
                x -> x.pass(11) + " " + fronts(x, 1), "11 11 1 1");
        Edge.answers("14 60 minutes serve no more than all", fast,
                x -> x.pass(60) + " " + x.line(1), "12 0");
    }

    private static void passAtOnce() {
        Edge.answers("14 one of each bar in the same minute", x -> {
            x.setServing(1);
            for (int visitor = 0; visitor < 12; visitor++) {
                x.join(visitor % 3, visitor);
            }
        }, x -> x.pass(1) + " " + x.front(0, false) + " " + x.front(1, false) + " "
                + x.front(2, false), "3 3 4 5");
        Edge.answers("14 each line by its own minutes", x -> {
            x.join(0, 0);
            x.pass(1);
            x.join(1, 1);
            x.pass(1);
            x.join(2, 2);
        }, x -> x.pass(1) + " " + x.pass(1) + " " + x.pass(1), "1 1 1");
    }

    private static void line() {
        Edge.answers("42 without a line", Edge.NEW, x -> x.line(0), 0);
        Edge.answers("42 the one who is being served counted in", x -> x.join(0, 0),
                x -> x.line(0), 1);
        Edge.answers("42 who was served is not", x -> {
            x.join(0, 0);
            x.join(0, 1);
            x.pass(3);
        }, x -> x.line(0), 1);
    }

    private static void front() {
        for (int i = 0; i < 3; i++) {
            int bar = i;
            Edge.refuses("43 the line is empty", Edge.NEW, x -> x.front(bar, false), N);
            Edge.refuses("43 the line is empty", Edge.NEW, x -> x.front(bar, true), N);
            Edge.Steps served = x -> {
                x.join(bar, 3);
                x.pass(3);
            };
            Edge.refuses("43 the line is empty again", served, x -> x.front(bar, false), N);
            Edge.refuses("43 the line is empty again", served, x -> x.front(bar, true), N);
            Edge.refuses("43 the other lines are empty", x -> x.join(bar, 3),
                    x -> x.front((bar + 1) % 3, false), N);
            Edge.answers("43 the visitor 0", x -> x.join(bar, 0), x -> x.front(bar, false), 0);
            Edge.answers("43 the visitor 11", x -> x.join(bar, 11), x -> x.front(bar, false), 11);
            Edge.answers("43 the first one who joined, not the least", x -> {
                x.join(bar, 9);
                x.join(bar, 2);
            }, x -> x.front(bar, false), 9);
        }
        Edge.answers("43 the least minutes that are left", x -> {
            x.join(0, 3);
            x.pass(2);
        }, x -> x.front(0, true), 1);
    }

    private static void waitOf() {
        for (int i = 0; i < 12; i++) {
            int visitor = i;
            Edge.answers("44 NONE in no line", Edge.NEW, x -> x.waitOf(visitor), -1);
            Edge.answers("44 0 at the front", x -> x.join(1, visitor), x -> x.waitOf(visitor), 0);
            Edge.answers("44 NONE behind leave()", x -> {
                x.join(1, visitor);
                x.leave(visitor);
            }, x -> x.waitOf(visitor), -1);
        }
        Edge.answers("44 the second one, a minute ahead", x -> {
            x.join(1, 0);
            x.join(1, 1);
            x.pass(2);
        }, x -> x.waitOf(0) + " " + x.waitOf(1), "0 1");
        Edge.answers("44 the minute in which it begins", x -> {
            x.join(1, 0);
            x.join(1, 1);
            x.pass(3);
        }, x -> x.waitOf(0) + " " + x.waitOf(1), "-1 0");
        Edge.answers("44 others at other bars do not count", x -> {
            x.join(1, 0);
            x.join(0, 1);
            x.join(0, 2);
            x.join(1, 3);
        }, x -> x.waitOf(3), 3);
    }

    private static void waits() {
        Edge.answers("45 without lines", Edge.NEW, x -> x.waits(false) + x.waits(true), 0);
        Edge.answers("45 who is being served waits not", x -> {
            x.join(0, 0);
            x.join(1, 1);
            x.join(2, 2);
        }, x -> x.waits(false) + x.waits(true), 0);
        Edge.Steps all = x -> {
            x.setServing(10);
            for (int visitor = 0; visitor < 12; visitor++) {
                x.join(0, visitor);
            }
        };
        for (int i = 0; i < 12; i++) {
            int visitor = i;
            Edge.answers("45 each one who waits", x -> {
                x.join(2, (visitor + 7) % 12);
                x.join(2, visitor);
            }, x -> x.waits(false), 3);
        }
        Edge.answers("45 all twelve in one line", all, x -> x.waits(false), 660);
        // Eleven wait: two begin now, then three each at 10, 20 and 30.
        Edge.answers("45 all twelve, told by one line", all, x -> x.waits(true), 180);
    }

    private static void waitsByOneLine() {
        Edge.answers("45 a bar without a line is free now", x -> {
            x.join(0, 0);
            x.join(0, 1);
        }, x -> x.waits(false) + " " + x.waits(true), "3 0");
        Edge.answers("45 another one when its first one is served", x -> {
            x.join(0, 0);
            x.pass(1);
            x.join(1, 1);
            x.join(2, 2);
            x.join(2, 3);
        }, x -> x.waits(false) + " " + x.waits(true), "3 2");
        Edge.answers("45 then the bar that is free next", x -> {
            x.join(0, 0);
            x.pass(1);
            x.join(1, 1);
            x.pass(1);
            x.join(2, 2);
            x.join(2, 3);
            x.join(2, 4);
            x.join(2, 5);
            x.join(2, 6);
        }, x -> x.waits(false) + " " + x.waits(true), 3 + 6 + 9 + 12 + " " + (1 + 2 + 3 + 4));
        // Minutes to serve changed, so the order in which bars are taken counts.
        Edge.answers("45 those who begin later take what is told now", x -> {
            x.setServing(10);
            x.join(0, 0);
            x.join(1, 1);
            x.join(2, 2);
            x.setServing(2);
            x.join(2, 3);
            x.join(2, 4);
            x.join(2, 5);
            x.join(2, 6);
        }, x -> x.waits(false) + " " + x.waits(true), 10 + 12 + 14 + 16 + " " + (30 + 12));
        Edge.answers("45 the front of a line is not in the one line", x -> {
            x.join(0, 0);
            x.join(0, 1);
            x.join(1, 2);
            x.join(2, 3);
            x.leave(0);
        }, x -> x.waits(false) + " " + x.waits(true), "0 0");
    }

    private static void served() {
        Edge.answers("46 nobody", Edge.NEW, x -> x.served(), 0);
        Edge.answers("46 being served is not served", x -> {
            x.join(0, 0);
            x.pass(2);
        }, x -> x.served(), 0);
        Edge.answers("46 the minute in which it is", x -> {
            x.join(0, 0);
            x.pass(3);
        }, x -> x.served(), 1);
        Edge.answers("46 each time counted", x -> {
            x.setServing(1);
            for (int i = 0; i < 100; i++) {
                x.join(i % 3, 0);
                x.pass(1);
            }
        }, x -> x.served(), 100);
        Edge.answers("46 who leaves is not counted", x -> {
            x.join(0, 0);
            x.leave(0);
            x.pass(60);
        }, x -> x.served(), 0);
    }
}
