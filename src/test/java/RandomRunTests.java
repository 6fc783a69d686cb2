import java.lang.reflect.InvocationTargetException;
import java.lang.reflect.Method;
import java.util.ArrayList;
import java.util.Arrays;
import java.util.HashMap;
import java.util.List;
import java.util.Map;
import java.util.Random;
import java.util.TreeSet;

/** Runs of 512 calls, the same ones each time, whose answers are compared with the Model's. */
public final class RandomRunTests {
    private static final int RUNS = 1200;
    private static final int CALLS = 512;

    /** The calls by what they are about, each with the kinds of its numbers. */
    private static final String[][] GROUPS = {
        {"setDate year month dayOfMonth", "dateAt minute what5"},
        {"setOpen stage flag", "setWay stage stage to60", "walk stage stage",
            "act stage begin length check members", "act stage begin length check members",
            "act stage begin length check members", "drop act", "wish visitor act weight",
            "wish visitor act weight", "wish visitor act weight", "wish visitor act weight",
            "actAt act what6", "acts", "firstIn stage minute minute", "clash act act", "clashes",
            "pleased flag", "pleased flag", "lineupShare", "checksum"},
        {"act stage begin length check members", "wish visitor act weight",
            "wish visitor act weight", "wish visitor act weight", "evening visitor day",
            "eveningAct visitor day place", "eveningAct visitor day place", "price visitor act",
            "listeners stage begin", "meanEvening day"},
        {"setGate gate to50", "setReach gate stage to30", "setCrowd stage crowd", "outBy", "cut"},
        {"setServing to10", "join bar visitor", "join bar visitor", "join bar visitor",
            "leave visitor", "pass few", "line bar", "front bar flag", "waitOf visitor",
            "waits flag", "served"},
        {"setNeed hour to9", "setNeed hour to9", "setNeed hour to9", "setShift to10",
            "helpers hourOrNone", "helpers hourOrNone", "proof"},
        {"setLoad hour hour load", "setGenerator generator power cheap cheap", "cost",
            "isOn hour"},
        {"act stage begin length check members", "setOpen stage flag", "rain begin minute",
            "rain begin minute", "movedTo act", "movedTo act", "moveAll", "moveAll", "undo"},
        {"setPrice day price", "ticket visitor day age", "ticket visitor day age",
            "ticket visitor day age", "refund visitor day", "resell visitor visitor day",
            "payBands", "ticketAt visitor day", "balance kind visitor", "checksum"},
        {"lose thing stage", "find stageOrNone", "lost"},
        {"undo", "undo", "errors"},
    };

    private final Random random;
    /** How far apart acts begin, how long they are and how dear tickets are in this run. */
    private final int spread;
    private final int longest;
    private final int dearest;

    private RandomRunTests(long seed) {
        random = new Random(seed);
        spread = new int[] {60, 300, 800, 2000, 5760}[random.nextInt(5)];
        longest = new int[] {30, 60, 240}[random.nextInt(3)];
        dearest = new int[] {3, 30, 500}[random.nextInt(3)];
    }

    public static void main(String[] args) throws Exception {
        Map<String, Method[]> methods = new HashMap<>();
        for (Method method : Festivalgrounds.class.getMethods()) {
            if (method.getDeclaringClass() == Festivalgrounds.class) {
                methods.put(method.getName(), new Method[] {method,
                    Model.class.getMethod(method.getName(), method.getParameterTypes())});
            }
        }
        int runs = args.length > 0 ? Integer.parseInt(args[0]) : RUNS;
        TreeSet<String> answered = new TreeSet<>();
        for (int run = 0; run < runs; run++) {
            new RandomRunTests(run).run(run, methods, answered);
        }
        Check.same("each call answered and threw all that the face tells, and nothing else",
                String.join(" ", answered), String.join(" ", outcomesOfFace(methods)));
        Check.end("RandomRunTests");
    }

    private static TreeSet<String> outcomesOfFace(Map<String, Method[]> methods) {
        TreeSet<String> outcomes = new TreeSet<>();
        for (String name : methods.keySet()) {
            outcomes.add(name);
            for (Class<?> exception : methods.get(name)[0].getExceptionTypes()) {
                outcomes.add(name + " throws." + exception.getSimpleName());
            }
        }
        return outcomes;
    }

    private void run(int run, Map<String, Method[]> methods, TreeSet<String> answered) {
        List<String> calls = new ArrayList<>();
        for (String[] group : GROUPS) {
            int times = random.nextInt(3) == 0 ? 4 : 1;
            for (int i = 0; i < times; i++) {
                calls.addAll(Arrays.asList(group));
            }
        }
        Festivalgrounds festival = new Festivalgrounds();
        Model model = new Model();
        for (int i = 0; i < CALLS; i++) {
            String[] call = calls.get(random.nextInt(calls.size())).split(" ");
            Method[] both = methods.get(call[0]);
            Object[] numbers = new Object[call.length - 1];
            for (int j = 0; j < numbers.length; j++) {
                numbers[j] = call[j + 1].equals("flag") ? (Object) random.nextBoolean()
                        : (Object) number(call[j + 1]);
            }
            String due = outcome(both[1], model, numbers);
            String got = outcome(both[0], festival, numbers);
            Check.same("run " + run + ", call " + i + ": " + call[0] + Arrays.toString(numbers),
                    got, due);
            answered.add(call[0] + (due.startsWith("throws.") ? " " + due : ""));
        }
    }

    private static String outcome(Method method, Object object, Object[] numbers) {
        try {
            return String.valueOf(method.invoke(object, numbers));
        } catch (InvocationTargetException e) {
            if (e.getCause() instanceof AssertionError) {
                throw (AssertionError) e.getCause();
            }
            return "throws." + e.getCause().getClass().getSimpleName();
        } catch (IllegalAccessException e) {
            throw new AssertionError(e);
        }
    }

    /** Of a range, mostly from inside, at times at an edge or outside. */
    private int in(int least, int most) {
        switch (random.nextInt(40)) {
            case 0:
                return least - 1;
            case 1:
                return most + 1;
            case 2:
                return least;
            case 3:
                return most;
            case 4:
                return random.nextInt(8) == 0 ? random.nextInt() : least;
            default:
                return least + random.nextInt(most - least + 1);
        }
    }

    private int number(String kind) {
        switch (kind) {
            case "year":
                return random.nextBoolean() ? in(1, 9990) : in(1999, 2030);
            case "month":
                return in(1, 12);
            case "dayOfMonth":
                return random.nextBoolean() ? in(1, 28) : in(27, 31);
            case "minute":
                return random.nextBoolean() ? in(0, 5760) : in(0, spread);
            case "begin":
                return random.nextInt(4) == 0 ? in(0, 5759)
                        : Math.min(5759, 60 + 10 * (in(0, spread) / 10));
            case "length":
                return random.nextBoolean() ? in(10, longest) : 10 * in(1, longest / 10);
            case "check":
                return random.nextBoolean() ? 0 : in(0, 60);
            case "members":
                return random.nextInt(3) == 0 ? in(1, 4095) : 1 << random.nextInt(12);
            case "act":
                return random.nextInt(3) == 0 ? in(0, 15) : in(0, 5);
            case "weight":
                return random.nextBoolean() ? in(0, 9) : in(0, 3);
            case "crowd":
                return random.nextInt(5) == 0 ? in(0, 2000) : in(0, 120);
            case "price":
                return in(0, dearest);
            case "load":
                return in(0, random.nextInt(3) == 0 ? 500 : 150);
            case "cheap":
                return random.nextInt(4) == 0 ? in(0, 100) : in(0, 6);
            default:
                return simpleNumber(kind);
        }
    }

    private int simpleNumber(String kind) {
        String[] kinds = {"stage 0 3", "stageOrNone -1 3", "visitor 0 11", "day 0 3", "gate 0 2",
            "bar 0 2", "hour 0 23", "hourOrNone -1 23", "generator 0 3", "thing 0 99", "age 0 120",
            "kind 0 2", "place 0 3", "what5 0 5", "what6 0 6", "to9 0 9", "to10 1 10", "to30 1 30",
            "to50 0 50", "to60 1 60", "few 1 9", "power 0 200"};
        for (String text : kinds) {
            String[] parts = text.split(" ");
            if (parts[0].equals(kind)) {
                return in(Integer.parseInt(parts[1]), Integer.parseInt(parts[2]));
            }
        }
        throw new AssertionError(kind);
    }
}
