import java.lang.reflect.InvocationTargetException;
import java.lang.reflect.Method;
import java.util.ArrayList;
import java.util.List;

/**
 * "If several exceptions apply to a call, the one that is listed first is thrown": each call with
 * each two of its numbers out of range, with all of them, and with a state that refuses it, too.
 */
public final class ExceptionOrderTests {
    private static final String I = Edge.I;
    private static final String A = Edge.A;
    private static final String S = Edge.S;
    private static final String N = Edge.N;

    /**
     * Each call with more than one number: numbers that Edge.FULL takes, and behind each one its
     * range and what is thrown outside it.
     */
    private static final String[] CALLS = {
        "setDate 2027:1:9990:A 12:1:12:A 30:1:31:A",
        "setWay 0:0:3:I 2:0:3:I 5:1:60:A",
        "act 0:0:3:I 100:0:5759:A 50:10:240:A 0:0:60:A 1:1:4095:A",
        "wish 0:0:11:I 0:0:15:I 1:0:9:A",
        "setGate 0:0:2:I 1:0:50:A",
        "setReach 0:0:2:I 0:0:3:I 1:1:30:A",
        "setCrowd 0:0:3:I 1:0:2000:A",
        "join 1:0:2:I 11:0:11:I",
        "setNeed 0:0:23:I 1:0:9:A",
        "setLoad 0:0:23:I 0:0:23:I 1:0:500:A",
        "setGenerator 0:0:3:I 1:0:200:A 1:0:100:A 1:0:100:A",
        "setPrice 0:0:3:I 1:0:500:A",
        "ticket 11:0:11:I 0:0:3:I 1:0:120:A",
        "refund 0:0:11:I 0:0:3:I",
        "resell 0:0:11:I 7:0:11:I 0:0:3:I",
        "lose 1:0:99:A 1:0:3:I",
        "dateAt 0:0:5759:A 0:0:5:A",
        "walk 0:0:3:I 0:0:3:I",
        "actAt 0:0:15:I 0:0:6:A",
        "clash 0:0:15:I 1:0:15:I",
        "evening 0:0:11:I 0:0:3:I",
        "eveningAct 0:0:11:I 0:0:3:I 0:0:15:N",
        "price 0:0:11:I 0:0:15:I",
        "listeners 0:0:3:I 0:0:5759:A",
        "rain 600:0:5759:A 720:1:5760:A",
        "ticketAt 0:0:11:I 0:0:3:I",
        "balance 1:0:2:A 0:0:11:I",
    };

    public static void main(String[] args) throws Exception {
        for (String line : CALLS) {
            new ExceptionOrderTests(line).tryAll();
        }
        sameNumbers();
        fullFestival();
        linesOfBars();
        hoursAndPlans();
        rainOfManyActs();
        ticketsAndThings();
        balances();
        Check.end("ExceptionOrderTests");
    }

    private final String name;
    private final Method method;
    private final int[] taken;
    private final int[][] outside;
    private final String[] exceptions;

    private ExceptionOrderTests(String line) throws Exception {
        String[] parts = line.split(" ");
        name = parts[0];
        int many = parts.length - 1;
        taken = new int[many];
        outside = new int[many][];
        exceptions = new String[many];
        Class<?>[] types = new Class<?>[many];
        for (int i = 0; i < many; i++) {
            String[] range = parts[i + 1].split(":");
            taken[i] = Integer.parseInt(range[0]);
            outside[i] = new int[] {Integer.parseInt(range[1]) - 1,
                Integer.parseInt(range[2]) + 1, Integer.MIN_VALUE, Integer.MAX_VALUE};
            exceptions[i] = range[3].equals("I") ? I : range[3].equals("A") ? A : N;
            types[i] = int.class;
        }
        method = Festivalgrounds.class.getMethod(name, types);
    }

    private Object call(Festivalgrounds x, int[] numbers) {
        Object[] boxed = new Object[numbers.length];
        for (int i = 0; i < numbers.length; i++) {
            boxed[i] = numbers[i];
        }
        try {
            return method.invoke(x, boxed);
        } catch (InvocationTargetException e) {
            throw (RuntimeException) e.getCause();
        } catch (IllegalAccessException e) {
            throw new AssertionError(e);
        }
    }

    /** The one of the exceptions that the document lists first for the call. */
    private String first(List<String> due) {
        String[] order = name.equals("balance") ? new String[] {A, I, S, N}
                : new String[] {I, A, N, S};
        for (String exception : order) {
            if (due.contains(exception)) {
                return exception;
            }
        }
        throw new AssertionError(name);
    }

    private void tryAll() {
        Edge.answers(name + " takes its numbers", Edge.FULL,
                x -> Check.outcome(() -> call(x, taken)).startsWith("throws."), false);
        for (int set = 1; set < 1 << taken.length; set++) {
            if (Integer.bitCount(set) <= 2 || set == (1 << taken.length) - 1) {
                trySet(set);
            }
        }
    }

    /** The numbers of a set of places get out of range, each by each of four numbers. */
    private void trySet(int set) {
        int ways = 1 << 2 * Integer.bitCount(set);
        for (int way = 0; way < Math.min(ways, 64); way++) {
            int[] numbers = taken.clone();
            List<String> due = new ArrayList<>();
            int rest = way;
            for (int i = 0; i < numbers.length; i++) {
                if ((set >> i & 1) != 0) {
                    numbers[i] = outside[i][rest & 3];
                    rest >>= 2;
                    due.add(exceptions[i]);
                }
            }
            Edge.refuses("10 " + name + java.util.Arrays.toString(numbers), Edge.FULL,
                    x -> call(x, numbers), first(due));
        }
    }

    private static void sameNumbers() {
        Edge.refuses("4 stages that are not there, both the same", Edge.FULL,
                x -> x.setWay(4, 4, 5), I);
        Edge.refuses("4 stages that are not there, both the same", Edge.FULL,
                x -> x.setWay(-1, -1, 61), I);
        Edge.refuses("4 both are the same, and minutes out of range", Edge.FULL,
                x -> x.setWay(3, 3, 61), A);
        Edge.refuses("33 acts that are not there, both the same", Edge.FULL,
                x -> x.clash(4, 4), I);
        Edge.refuses("33 acts that are not there, both the same", Edge.FULL,
                x -> x.clash(16, 16), I);
        Edge.refuses("32 no stage, and from is greater than to", Edge.FULL,
                x -> x.firstIn(4, 1, 0), I);
        Edge.refuses("32 no stage, and from is greater than to", Edge.FULL,
                x -> x.firstIn(-1, 1, 0), I);
        Edge.refuses("7 an act that is not there, and a weight out of range", Edge.FULL,
                x -> x.wish(0, 4, 10), I);
        Edge.refuses("30 an act that is not there, and what is out of range", Edge.FULL,
                x -> x.actAt(4, 7), I);
    }

    private static void fullFestival() {
        Edge.Steps full = x -> {
            for (int act = 0; act < 16; act++) {
                x.act(act % 4, 100 + act, 50, 0, 1);
            }
        };
        Edge.refuses("5 16 acts alone", full, x -> x.act(0, 100, 50, 0, 1), S);
        Edge.refuses("5 16 acts, and no stage", full, x -> x.act(4, 100, 50, 0, 1), I);
        Edge.refuses("5 16 acts, and no stage", full, x -> x.act(-1, 100, 50, 0, 1), I);
        int[][] wrong = {{0, -1, 50, 0, 1}, {0, 5760, 50, 0, 1}, {0, 100, 9, 0, 1},
            {0, 100, 241, 0, 1}, {0, 100, 50, -1, 1}, {0, 100, 50, 61, 1}, {0, 100, 50, 0, 0},
            {0, 100, 50, 0, 4096}, {0, 59, 50, 60, 1}, {0, 5711, 50, 0, 1}};
        for (int[] row : wrong) {
            Edge.refuses("5 16 acts, and a number out of range", full,
                    x -> x.act(row[0], row[1], row[2], row[3], row[4]), A);
            Edge.refuses("5 16 acts, a number out of range, and no stage", full,
                    x -> x.act(4, row[1], row[2], row[3], row[4]), I);
        }
    }

    private static void linesOfBars() {
        Edge.refuses("12 no bar, and the visitor is in a line", Edge.FULL, x -> x.join(3, 0), I);
        Edge.refuses("12 no bar, and the visitor is in a line", Edge.FULL, x -> x.join(-1, 0), I);
        Edge.refuses("12 no visitor, so in no line", Edge.FULL, x -> x.join(0, 12), I);
        Edge.refuses("13 no visitor, so in no line", Edge.FULL, x -> x.leave(12), I);
        Edge.refuses("13 no visitor, so in no line", Edge.NEW, x -> x.leave(-1), I);
        Edge.refuses("43 no bar, and no line", Edge.NEW, x -> x.front(3, false), I);
        Edge.refuses("43 no bar, and no line", Edge.NEW, x -> x.front(-1, true), I);
    }

    private static void hoursAndPlans() {
        Edge.Steps dark = x -> x.setLoad(0, 0, 1);
        Edge.refuses("50 no hour, and no plan", dark, x -> x.isOn(24), I);
        Edge.refuses("50 no hour, and no plan", dark, x -> x.isOn(-1), I);
        Edge.refuses("17 no last hour, and less than the first one", Edge.FULL,
                x -> x.setLoad(3, -1, 1), I);
        Edge.refuses("17 no first hour, greater than the last one", Edge.FULL,
                x -> x.setLoad(24, 3, 1), I);
        Edge.refuses("17 behind is less than hour, and power out of range", Edge.FULL,
                x -> x.setLoad(3, 2, 501), A);
        Edge.refuses("37 no visitor, and no place", Edge.NEW, x -> x.eveningAct(12, 0, 0), I);
        Edge.refuses("37 no day, and no place", Edge.NEW, x -> x.eveningAct(0, 4, 0), I);
        Edge.refuses("37 no day, and a place below 0", Edge.NEW, x -> x.eveningAct(0, -1, -1), I);
    }

    private static void rainOfManyActs() {
        Edge.Steps seven = x -> {
            x.setOpen(0, true);
            for (int act = 0; act < 7; act++) {
                x.act(0, 100, 50, 0, 1);
            }
        };
        Edge.refuses("51 it meets seven alone", seven, x -> x.rain(100, 101), S);
        int[][] wrong = {{-1, 5760}, {0, 5761}, {120, 120}, {120, 119}, {-1, 5761},
            {Integer.MIN_VALUE, Integer.MAX_VALUE}, {5760, 5761}};
        for (int[] row : wrong) {
            Edge.refuses("51 it meets seven, and a number is out of range", seven,
                    x -> x.rain(row[0], row[1]), A);
        }
        Edge.refuses("19 no plan is kept behind a refused one", seven, x -> {
            Check.outcome(() -> x.rain(100, 101));
            return x.moveAll();
        }, S);
    }

    private static void ticketsAndThings() {
        Edge.refuses("21 has a ticket, and no age", Edge.FULL, x -> x.ticket(0, 0, 121), A);
        Edge.refuses("21 has a ticket, and no age", Edge.FULL, x -> x.ticket(0, 0, -1), A);
        Edge.refuses("21 no visitor, and no age", Edge.FULL, x -> x.ticket(12, 0, 121), I);
        Edge.refuses("21 no day, and no age", Edge.FULL, x -> x.ticket(0, 4, -1), I);
        Edge.refuses("22 no visitor, so no ticket", Edge.NEW, x -> x.refund(12, 0), I);
        Edge.refuses("22 no day, so no ticket", Edge.NEW, x -> x.refund(0, 4), I);
        Edge.refuses("23 no other one, and no ticket", Edge.NEW, x -> x.resell(0, 12, 0), I);
        Edge.refuses("23 no visitor, so no ticket", Edge.NEW, x -> x.resell(-1, 0, 0), I);
        Edge.refuses("23 no day, so no ticket", Edge.NEW, x -> x.resell(0, 1, -1), I);
        Edge.refuses("23 both are the same, and not there", Edge.FULL, x -> x.resell(12, 12, 0),
                I);
        Edge.refuses("23 no ticket, and the other one has one", Edge.FULL,
                x -> x.resell(7, 0, 0), N);
        Edge.refuses("23 no ticket, and both are the same", Edge.FULL, x -> x.resell(7, 7, 0), N);
        Edge.refuses("25 no thing, and no stage", Edge.FULL, x -> x.lose(100, 4), I);
        Edge.refuses("25 no thing, and NONE for a stage", Edge.FULL, x -> x.lose(-1, -1), I);
        Edge.refuses("26 no stage, and nothing is lost", Edge.NEW, x -> x.find(4), I);
        Edge.refuses("26 no stage, and nothing is lost", Edge.NEW, x -> x.find(-2), I);
    }

    private static void balances() {
        Edge.refuses("54 no kind, and no number", Edge.FULL, x -> x.balance(3, 12), A);
        Edge.refuses("54 no kind, and no number", Edge.FULL, x -> x.balance(-1, -1), A);
        Edge.refuses("54 the house, and no visitor", Edge.FULL, x -> x.balance(0, 12), A);
        Edge.refuses("54 the house, and no visitor", Edge.FULL, x -> x.balance(0, -1), A);
    }
}
