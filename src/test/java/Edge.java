import java.util.IdentityHashMap;
import java.util.Map;

/**
 * Tests of one sentence of the document each. Each test makes festivals of its own, and none of
 * them gets more than the 512 calls for which the document promises something.
 */
final class Edge {
    static final String I = "IndexOutOfBoundsException";
    static final String A = "IllegalArgumentException";
    static final String S = "IllegalStateException";
    static final String N = "NoSuchElementException";

    /** What brings a new festival to where a test begins. */
    interface Steps {
        void on(Festivalgrounds x);
    }

    interface Call {
        Object on(Festivalgrounds x);
    }

    interface NumberCall {
        Object on(Festivalgrounds x, int number);
    }

    static final Steps NEW = x -> { };

    /** Something in each part, a rain plan that is kept, and more than eight changes. */
    static final Steps FULL = x -> {
        x.setOpen(1, true);
        x.setWay(0, 1, 7);
        x.setWay(2, 3, 4);
        x.act(0, 600, 60, 30, 0b11);
        x.act(1, 630, 60, 15, 0b100);
        x.act(1, 700, 45, 0, 0b101);
        x.act(2, 1430, 60, 10, 0b1000);
        x.act(3, 3000, 240, 60, 4095);
        x.act(3, 3100, 20, 0, 1);
        x.drop(4);
        x.wish(0, 0, 3);
        x.wish(0, 2, 4);
        x.wish(1, 1, 2);
        x.wish(11, 5, 9);
        gatesAndBars(x);
        hours(x);
        tickets(x);
        latestChanges(x);
        x.rain(600, 720);
    };

    private static final Map<Steps, String[]> LOOKS = new IdentityHashMap<>();

    private Edge() {
    }

    private static void gatesAndBars(Festivalgrounds x) {
        x.setGate(0, 5);
        x.setGate(1, 3);
        x.setReach(0, 0, 2);
        x.setReach(2, 3, 30);
        x.setCrowd(0, 100);
        x.setCrowd(3, 40);
        x.setServing(4);
        x.join(0, 0);
        x.join(0, 1);
        x.join(0, 2);
        x.join(2, 3);
        x.pass(2);
    }

    private static void hours(Festivalgrounds x) {
        x.setNeed(5, 3);
        x.setNeed(12, 4);
        x.setNeed(23, 2);
        x.setShift(6);
        x.setGenerator(0, 100, 30, 10);
        x.setGenerator(1, 60, 5, 12);
        x.setGenerator(2, 40, 3, 2);
        x.setGenerator(3, 20, 1, 9);
        x.setLoad(0, 5, 50);
        x.setLoad(3, 4, 150);
    }

    private static void tickets(Festivalgrounds x) {
        x.setPrice(1, 33);
        x.ticket(0, 0, 30);
        x.ticket(1, 0, 10);
        x.ticket(2, 3, 70);
        x.payBands();
        x.lose(7, 2);
        x.lose(3, 0);
        x.lose(99, 3);
    }

    /** The eight that can be undone, each of which the look at undo() can tell from the others. */
    private static void latestChanges(Festivalgrounds x) {
        x.setDate(2027, 12, 30);
        x.wish(4, 3, 9);
        x.join(1, 9);
        x.setNeed(9, 5);
        x.ticket(5, 2, 40);
        x.lose(50, 1);
        x.setCrowd(2, 60);
        x.setWay(0, 3, 2);
    }

    static Festivalgrounds made(Steps steps) {
        Festivalgrounds x = new Festivalgrounds();
        steps.on(x);
        return x;
    }

    /** Steps behind those of another state; for a state that several tests begin with. */
    static Steps behind(Steps first, Steps then) {
        return x -> {
            first.on(x);
            then.on(x);
        };
    }

    static void answers(String sentence, Steps steps, Call call, Object due) {
        Festivalgrounds x = made(steps);
        Check.same(sentence, Check.outcome(() -> call.on(x)), due);
    }

    /** The call throws this exception, and changes nothing that a later call shows. */
    static void refuses(String sentence, Steps steps, Call call, String exception) {
        answers(sentence, steps, call, "throws." + exception);
        Probe[] probes = Probe.values();
        String[] looks = LOOKS.computeIfAbsent(steps, Edge::looksAt);
        for (int i = 0; i < probes.length; i++) {
            Festivalgrounds x = made(steps);
            Check.outcome(() -> call.on(x));
            Check.same(sentence + ", which changes nothing of " + probes[i],
                    probes[i].look(x), looks[i]);
        }
    }

    private static String[] looksAt(Steps steps) {
        Probe[] probes = Probe.values();
        String[] looks = new String[probes.length];
        for (int i = 0; i < probes.length; i++) {
            looks[i] = probes[i].look(made(steps));
        }
        return looks;
    }

    /** All numbers from the least to the most one are taken, those outside are refused. */
    static void range(
            String sentence, Steps steps, int least, int most, String exception, NumberCall call) {
        for (int i = least; i <= most; i++) {
            int number = i;
            Festivalgrounds x = made(steps);
            Check.same(sentence + ": " + number + " is taken",
                    Check.outcome(() -> call.on(x, number)).startsWith("throws."), false);
        }
        refusesOutside(sentence, steps, least, most, exception, call);
    }

    static void refusesOutside(
            String sentence, Steps steps, int least, int most, String exception, NumberCall call) {
        int[] outside = {least - 1, most + 1, Integer.MIN_VALUE, Integer.MAX_VALUE};
        for (int number : outside) {
            refuses(sentence + ": " + number + " is refused", steps, x -> call.on(x, number),
                    exception);
        }
    }

    /** As range(), and each number that is taken is what is read behind. */
    static void keeps(String sentence, Steps steps, int least, int most, NumberCall write,
            Call read) {
        for (int number = least; number <= most; number++) {
            Festivalgrounds x = made(steps);
            write.on(x, number);
            Check.same(sentence + ": " + number + " is kept",
                    Check.outcome(() -> read.on(x)), number);
        }
        refusesOutside(sentence, steps, least, most, A, write);
    }
}
