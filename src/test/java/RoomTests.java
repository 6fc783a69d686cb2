import com.sun.management.ThreadMXBean;
import java.lang.management.ManagementFactory;
import java.lang.reflect.Array;
import java.lang.reflect.Field;
import java.lang.reflect.Modifier;
import java.util.IdentityHashMap;
import java.util.Map;

/** All calls of one run live in one room: what a festival takes, and that no call makes more. */
public final class RoomTests {
    private static final int CALLS = 512;
    private static final long OBJECTS = 600_000;
    private static final long ELEMENTS = 7_300_000;

    private static final ThreadMXBean THREADS =
            (ThreadMXBean) ManagementFactory.getThreadMXBean();

    private final Map<Object, Boolean> seen = new IdentityHashMap<>();
    private long objects = 0;
    private long elements = 0;

    private RoomTests() {
    }

    public static void main(String[] args) throws Exception {
        roomOfFestival();
        callsMakeNothing();
        Check.end("RoomTests");
    }

    // ---- what a festival takes

    private static void roomOfFestival() throws IllegalAccessException {
        RoomTests atFirst = counted(new Festivalgrounds());
        Check.same("a festival is counted", atFirst.objects > 1, true);
        // The constructor is the dearest call: even a run of nothing else has to fit.
        Check.same("objects and arrays, " + atFirst.objects,
                atFirst.objects * CALLS <= OBJECTS, true);
        Check.same("fields and elements, " + atFirst.elements,
                atFirst.elements * CALLS <= ELEMENTS, true);
        Check.same("objects and arrays as README.md tells", atFirst.objects <= 400, true);
        Check.same("fields and elements as README.md tells", atFirst.elements <= 11_000, true);
        RoomTests later = counted(Edge.made(Edge.FULL));
        Check.same("objects and arrays later", later.objects, atFirst.objects);
        Check.same("fields and elements later", later.elements, atFirst.elements);
    }

    private static RoomTests counted(Festivalgrounds x) throws IllegalAccessException {
        RoomTests room = new RoomTests();
        room.count(x);
        return room;
    }

    private void count(Object one) throws IllegalAccessException {
        if (one == null || seen.put(one, true) != null) {
            return;
        }
        objects++;
        if (one.getClass().isArray()) {
            elements += Array.getLength(one);
            for (int i = 0; i < Array.getLength(one) && one instanceof Object[]; i++) {
                count(((Object[]) one)[i]);
            }
            return;
        }
        for (Field field : one.getClass().getDeclaredFields()) {
            if (!Modifier.isStatic(field.getModifiers())) {
                elements++;
                field.setAccessible(true);
                count(field.getType().isPrimitive() ? null : field.get(one));
            }
        }
    }

    // ---- what calls make

    private static void callsMakeNothing() {
        // What the machine itself makes as it first comes to a call is made by the first festival.
        long first = madeByCalls();
        Check.same("bytes of things that calls make, after " + first, madeByCalls(), 0);
    }

    private static long madeByCalls() {
        Festivalgrounds x = new Festivalgrounds();
        Edge.FULL.on(x);
        long before = THREADS.getCurrentThreadAllocatedBytes();
        questions(x);
        changes(x);
        Edge.FULL.on(x);
        questions(x);
        return THREADS.getCurrentThreadAllocatedBytes() - before;
    }

    private static long questions(Festivalgrounds x) {
        long sum = x.dateAt(1500, 2) + x.walk(0, 3) + x.actAt(0, 5) + x.actAt(0, 6) + x.acts()
                + x.firstIn(0, 0, 5760) + (x.clash(0, 1) ? 1 : 0) + x.clashes()
                + x.pleased(false) + x.pleased(true);
        sum += x.evening(0, 0) + x.eveningAct(0, 0, 0) + x.price(0, 0) + x.listeners(0, 610);
        sum += x.outBy() + x.cut() + x.line(0) + x.front(0, false) + x.front(0, true)
                + x.waitOf(0) + x.waits(false) + x.waits(true) + x.served();
        sum += x.helpers(5) + x.helpers(-1) + x.proof() + x.cost() + x.isOn(3)
                + x.rain(600, 720) + x.movedTo(1);
        sum += x.ticketAt(0, 0) + x.balance(0, 0) + x.balance(1, 0) + x.balance(2, 0) + x.lost();
        return sum + (long) x.meanEvening(0) + (long) x.lineupShare() + x.checksum() + x.errors();
    }

    /** Ends with nobody in a line and without tickets, so that Edge.FULL can come again. */
    private static void changes(Festivalgrounds x) {
        x.moveAll();
        x.undo();
        x.setOpen(1, false);
        x.undo();
        x.find(-1);
        x.resell(0, 6, 0);
        x.refund(6, 0);
        x.refund(1, 0);
        x.refund(2, 3);
        x.refund(5, 2);
        x.leave(1);
        x.pass(60);
        for (int act = 0; act < 16; act++) {
            if (x.firstIn(0, 0, 5760) == act || x.firstIn(1, 0, 5760) == act
                    || x.firstIn(2, 0, 5760) == act || x.firstIn(3, 0, 5760) == act) {
                x.drop(act);
            }
        }
    }
}
