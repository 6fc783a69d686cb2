import java.math.BigInteger;

/** The edges of promises 57 to 59: how full the lineup is, the checksum, errors. */
public final class MeasureEdgeTests {
    public static void main(String[] args) {
        lineupShare();
        checksumOfLeast();
        checksumByNumbers();
        checksumGoesRound();
        errorsOfLeastAndMost();
        Check.end("MeasureEdgeTests");
    }

    private static void lineupShare() {
        Edge.answers("57 0.0f without acts", Edge.NEW, x -> x.lineupShare(), 0.0f);
        Edge.answers("57 0.0f when the last act is dropped", x -> {
            x.act(0, 100, 50, 0, 1);
            x.drop(0);
        }, x -> x.lineupShare(), 0.0f);
        for (int i = 1; i <= 16; i++) {
            int many = i;
            Edge.answers("57 one of " + many, x -> {
                for (int act = 0; act < many; act++) {
                    x.act(act % 4, 100, 50, 0, 1);
                }
            }, x -> x.lineupShare(), 1.0f / (float) many);
            Edge.answers("57 all of " + many, x -> {
                for (int act = 0; act < many; act++) {
                    x.act(act % 4, 100 + 10 * act, 10, 0, 1);
                }
            }, x -> x.lineupShare(), 1.0f);
        }
        Edge.answers("57 acts that please nobody are counted", x -> {
            x.act(0, 100, 50, 0, 1);
            x.act(0, 200, 50, 0, 1);
            x.act(0, 210, 50, 0, 1);
            x.wish(0, 0, 1);
        }, x -> x.lineupShare(), 2.0f / 3.0f);
    }

    /** The sum as the document tells it, of numbers without an end, cut to a long. */
    private static long due(int[][] acts, int[] balances) {
        BigInteger sum = BigInteger.valueOf(7);
        BigInteger times = BigInteger.valueOf(31);
        for (int[] act : acts) {
            sum = sum.multiply(times).add(BigInteger.valueOf(act[1]))
                    .add(BigInteger.valueOf(10000L * act[0]));
        }
        for (int balance : balances) {
            sum = sum.multiply(times).add(BigInteger.valueOf(balance));
        }
        return sum.longValue();
    }

    private static void checksumOfLeast() {
        Edge.answers("58 without acts", Edge.NEW, x -> x.checksum(),
                due(new int[0][], new int[12]));
        Edge.answers("58 the least stage and begin", x -> x.act(0, 0, 10, 0, 1),
                x -> x.checksum(), due(new int[][] {{0, 0}}, new int[12]));
        Edge.answers("58 the greatest stage and begin", x -> x.act(3, 5750, 10, 0, 1),
                x -> x.checksum(), due(new int[][] {{3, 5750}}, new int[12]));
    }

    private static void checksumByNumbers() {
        Edge.Steps three = x -> {
            x.act(1, 500, 50, 0, 1);
            x.act(2, 400, 50, 0, 1);
            x.act(3, 300, 50, 0, 1);
        };
        Edge.answers("58 by their numbers, not by their begins", three, x -> x.checksum(),
                due(new int[][] {{1, 500}, {2, 400}, {3, 300}}, new int[12]));
        Edge.answers("58 numbers that none has are left out",
                Edge.behind(three, x -> x.drop(1)), x -> x.checksum(),
                due(new int[][] {{1, 500}, {3, 300}}, new int[12]));
        Edge.answers("58 a number that is given again", Edge.behind(three, x -> {
            x.drop(1);
            x.act(0, 700, 10, 0, 1);
        }), x -> x.checksum(), due(new int[][] {{1, 500}, {0, 700}, {3, 300}}, new int[12]));
        for (int i = 0; i < 12; i++) {
            int visitor = i;
            int[] balances = new int[12];
            balances[visitor] = -20;
            Edge.answers("58 the balance of each visitor", x -> x.ticket(visitor, 0, 30),
                    x -> x.checksum(), due(new int[0][], balances));
        }
    }

    private static void checksumGoesRound() {
        int[][] acts = new int[16][];
        for (int act = 0; act < 16; act++) {
            acts[act] = new int[] {3, 5750 - act};
        }
        int[] balances = new int[12];
        for (int visitor = 0; visitor < 12; visitor++) {
            balances[visitor] = -500;
        }
        Edge.answers("58 longs that go round", x -> {
            x.setPrice(0, 500);
            for (int[] act : acts) {
                x.act(act[0], act[1], 10, 0, 1);
            }
            for (int visitor = 0; visitor < 12; visitor++) {
                x.ticket(visitor, 0, 30);
            }
        }, x -> x.checksum(), due(acts, balances));
        for (int i = 0; i <= 16; i++) {
            int many = i;
            int[][] some = java.util.Arrays.copyOf(acts, many);
            Edge.answers("58 the step over the greatest long, with " + many + " acts", x -> {
                for (int[] act : some) {
                    x.act(act[0], act[1], 10, 0, 1);
                }
            }, x -> x.checksum(), due(some, new int[12]));
        }
    }

    private static void errorsOfLeastAndMost() {
        Edge.answers("59 a new festival", Edge.NEW, x -> x.errors(), 0);
        Edge.answers("59 a full festival", Edge.FULL, x -> x.errors(), 0);
        Edge.answers("59 most of all", x -> {
            for (int act = 0; act < 16; act++) {
                x.act(act % 4, 1400 + 7 * act, 240, 60, 4095 - act);
            }
            for (int place = 0; place < 192; place++) {
                x.wish(place / 16, place % 16, 9 - place % 10);
            }
            for (int stage = 0; stage < 4; stage++) {
                x.setCrowd(stage, 2000);
                x.setPrice(stage, 500);
            }
            x.setGate(1, 1);
            x.setServing(10);
            for (int visitor = 0; visitor < 12; visitor++) {
                x.join(visitor % 2, visitor);
                x.ticket(visitor, 3, 30);
            }
            x.setServing(1);
            for (int hour = 0; hour < 24; hour++) {
                x.setNeed(hour, 9 - hour % 4);
            }
            x.setShift(10);
            x.payBands();
            x.refund(0, 3);
        }, x -> x.errors(), 0);
    }
}
