import java.util.ArrayList;
import java.util.List;

/** Promise 27 and section 10: what a change is, and what undo() does. */
public final class UndoTests {
    public static void main(String[] args) {
        eachChangeIsUndone();
        refusedCallsAreNoChanges();
        questionsAreNoChanges();
        eightChanges();
        undoneChangesAreGone();
        sameValuesAreChanges();
        linesComeBack();
        numbersAreGivenAnew();
        generatorsComeBack();
        Check.end("UndoTests");
    }

    /** A festival with something in each of its parts. */
    private static Festivalgrounds full() {
        Festivalgrounds x = new Festivalgrounds();
        x.setDate(2025, 12, 30);
        x.setOpen(2, true);
        x.setWay(0, 1, 4);
        x.act(0, 100, 50, 10, 3);
        x.act(2, 120, 50, 0, 5);
        x.wish(0, 0, 3);
        x.wish(1, 1, 2);
        x.setGate(0, 5);
        x.setReach(0, 1, 4);
        x.setCrowd(1, 77);
        x.join(0, 0);
        x.join(0, 1);
        x.setNeed(4, 3);
        x.setGenerator(0, 100, 7, 5);
        x.setLoad(3, 6, 80);
        x.ticket(0, 0, 30);
        x.ticket(1, 0, 30);
        x.lose(5, 1);
        x.pass(1);
        return x;
    }

    private static List<Check.Call> changes(Festivalgrounds x) {
        List<Check.Call> calls = new ArrayList<>();
        calls.add(() -> x.setDate(2026, 1, 1));
        calls.add(() -> x.setOpen(3, true));
        calls.add(() -> x.setWay(0, 2, 3));
        calls.add(() -> x.act(1, 500, 50, 0, 7));
        calls.add(() -> x.drop(0));
        calls.add(() -> x.wish(3, 1, 9));
        calls.add(() -> x.setGate(1, 9));
        calls.add(() -> x.setReach(0, 1, 9));
        calls.add(() -> x.setCrowd(0, 99));
        calls.add(() -> x.setServing(7));
        calls.add(() -> x.join(1, 7));
        calls.add(() -> x.leave(0));
        calls.add(() -> x.pass(5));
        calls.add(() -> x.setNeed(9, 9));
        calls.add(() -> x.setShift(3));
        calls.add(() -> x.setLoad(0, 1, 50));
        calls.add(() -> x.setGenerator(1, 200, 0, 1));
        calls.add(() -> x.setPrice(1, 3));
        calls.add(() -> x.ticket(4, 3, 8));
        calls.add(() -> x.refund(0, 0));
        calls.add(() -> x.resell(0, 6, 0));
        calls.add(() -> x.payBands());
        calls.add(() -> x.lose(4, 0));
        calls.add(() -> x.find(-1));
        return calls;
    }

    private static void eachChangeIsUndone() {
        int many = changes(new Festivalgrounds()).size();
        for (int i = 0; i < many; i++) {
            Festivalgrounds x = full();
            String before = all(x);
            String answer = Check.outcome(changes(x).get(i));
            Check.same("27 change " + i + " works", answer.startsWith("throws."), false);
            String behind = all(x);
            Check.same("27 change " + i + " changes something", before.equals(behind), false);
            Check.same("27 undo of change " + i, x.undo(), 6);
            Check.same("27 all is as before change " + i, all(x), before);
            Check.same("27 change " + i + " again", Check.outcome(changes(x).get(i)), answer);
            Check.same("27 all is as behind change " + i, all(x), behind);
        }
    }

    /** What can be seen, and what only setters tell; of eight open changes seven stay open. */
    private static String all(Festivalgrounds x) {
        StringBuilder text = new StringBuilder(Look.at(x));
        for (int stage = 0; stage < 4; stage++) {
            text.append(' ').append(x.setOpen(stage, true));
            x.undo();
            text.append(' ').append(x.setCrowd(stage, 1));
            x.undo();
            for (int gate = 0; gate < 3; gate++) {
                text.append(' ').append(x.setReach(gate, stage, 1));
                x.undo();
            }
        }
        for (int gate = 0; gate < 3; gate++) {
            text.append(' ').append(x.setGate(gate, 1));
            x.undo();
        }
        for (int day = 0; day < 4; day++) {
            text.append(' ').append(x.setPrice(day, 1));
            x.undo();
        }
        text.append(' ').append(x.setServing(1));
        x.undo();
        text.append(' ').append(x.setShift(2));
        x.undo();
        text.append(' ').append(x.setGenerator(1, 1, 1, 1));
        x.undo();
        return text.toString();
    }

    private static void refusedCallsAreNoChanges() {
        Festivalgrounds x = new Festivalgrounds();
        List<Check.Call> calls = new ArrayList<>();
        calls.add(() -> x.setDate(2026, 2, 30));
        calls.add(() -> x.setOpen(4, true));
        calls.add(() -> x.setWay(0, 0, 3));
        calls.add(() -> x.act(1, 500, 9, 0, 7));
        calls.add(() -> x.drop(0));
        calls.add(() -> x.wish(3, 1, 9));
        calls.add(() -> x.setGate(1, 51));
        calls.add(() -> x.setReach(0, 1, 31));
        calls.add(() -> x.setCrowd(0, 2001));
        calls.add(() -> x.setServing(0));
        calls.add(() -> x.join(3, 7));
        calls.add(() -> x.leave(0));
        calls.add(() -> x.pass(0));
        calls.add(() -> x.setNeed(9, 10));
        calls.add(() -> x.setShift(1));
        calls.add(() -> x.setLoad(2, 1, 50));
        calls.add(() -> x.setGenerator(1, 201, 0, 1));
        calls.add(() -> x.moveAll());
        calls.add(() -> x.setPrice(1, 501));
        calls.add(() -> x.ticket(4, 3, 121));
        calls.add(() -> x.refund(0, 0));
        calls.add(() -> x.resell(0, 6, 0));
        calls.add(() -> x.lose(100, 0));
        calls.add(() -> x.find(-1));
        calls.add(() -> x.undo());
        for (int i = 0; i < calls.size(); i++) {
            Check.same("10 refused " + i, Check.outcome(calls.get(i)).startsWith("throws."), true);
            Check.illegalState("27 nothing to undo behind " + i, x, () -> x.undo());
        }
    }

    private static void questionsAreNoChanges() {
        Festivalgrounds x = new Festivalgrounds();
        Look.at(x);
        x.rain(0, 100);
        x.listeners(0, 0);
        x.firstIn(0, 0, 1);
        x.meanEvening(0);
        Check.illegalState("27", x, () -> x.undo());
    }

    private static void eightChanges() {
        Festivalgrounds x = new Festivalgrounds();
        for (int i = 1; i <= 20; i++) {
            x.setPrice(0, i);
        }
        for (int left = 7; left >= 0; left--) {
            Check.same("27", x.undo(), left);
        }
        Check.illegalState("27 the latest eight alone", x, () -> x.undo());
        Check.same("27", x.setPrice(0, 0), 12);
    }

    private static void undoneChangesAreGone() {
        Festivalgrounds x = new Festivalgrounds();
        for (int i = 1; i <= 9; i++) {
            x.setPrice(0, i);
        }
        Check.same("27", x.undo(), 7);
        Check.same("27", x.undo(), 6);
        Check.same("27", x.setPrice(0, 100), 7);
        Check.same("27", x.undo(), 6);
        Check.same("27 the one ahead of it", x.undo(), 5);
        Check.same("27", x.setPrice(0, 200), 6);
    }

    private static void sameValuesAreChanges() {
        Festivalgrounds x = new Festivalgrounds();
        x.setOpen(0, false);
        x.setPrice(0, 20);
        x.pass(5);
        x.payBands();
        x.setNeed(0, 0);
        Check.same("10 nothing is different, but it is a change", x.undo(), 4);
        Check.same("10", x.undo(), 3);
        Check.same("10", x.undo(), 2);
        Check.same("10", x.undo(), 1);
        Check.same("10", x.undo(), 0);
    }

    private static void numbersAreGivenAnew() {
        Festivalgrounds x = new Festivalgrounds();
        x.act(1, 1000, 50, 20, 9);
        x.wish(7, 0, 5);
        x.drop(0);
        x.act(2, 2000, 60, 30, 6);
        x.wish(8, 0, 4);
        x.undo();
        x.undo();
        Check.same("27", x.undo(), 2);
        int[] due = {1, 1000, 50, 20, 9, 5, 1};
        for (int what = 0; what <= 6; what++) {
            Check.same("27 the act that was dropped", x.actAt(0, what), due[what]);
        }
        Check.same("27 its wishes", x.wish(7, 0, 1), 5);
        Check.same("27 its wishes", x.wish(8, 0, 1), 0);
    }

    private static void generatorsComeBack() {
        Festivalgrounds x = new Festivalgrounds();
        x.setGenerator(1, 100, 7, 3);
        x.setLoad(4, 5, 60);
        Check.same("27", x.cost(), 13);
        x.setGenerator(1, 50, 0, 0);
        x.undo();
        Check.same("27 power, start and hour", x.cost(), 13);
        x.setWay(2, 3, 1);
        x.undo();
        x.setWay(0, 3, 5);
        Check.same("27 ways, too", x.walk(0, 2), 10);
    }

    private static void linesComeBack() {
        Festivalgrounds x = new Festivalgrounds();
        x.join(0, 3);
        x.join(0, 1);
        x.join(0, 2);
        x.pass(4);
        x.leave(1);
        Check.same("27", x.front(0, false) + " " + x.front(0, true), "2 3");
        x.undo();
        Check.same("27", x.front(0, false) + " " + x.front(0, true), "1 2");
        Check.same("27", x.waitOf(2), 2);
        x.undo();
        Check.same("27", x.front(0, false) + " " + x.front(0, true), "3 3");
        Check.same("27", x.waitOf(1) + " " + x.waitOf(2) + " " + x.served(), "3 6 0");
    }
}
