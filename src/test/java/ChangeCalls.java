/**
 * Each call under "Changes" but moveAll() and undo(): as it works on Edge.FULL, and as it
 * throws there.
 */
final class ChangeCalls {
    private static final String[] NAMES = {"setDate", "setOpen", "setWay", "act", "drop", "wish",
        "setGate", "setReach", "setCrowd", "setServing", "join", "leave", "pass", "setNeed",
        "setShift", "setLoad", "setGenerator", "setPrice", "ticket", "refund", "resell",
        "payBands", "lose", "find"};

    private static final Edge.Call[] WORKING = {x -> x.setDate(2000, 2, 29),
        x -> x.setOpen(3, true), x -> x.setWay(0, 2, 3), x -> x.act(3, 5000, 50, 0, 7),
        x -> x.drop(5), x -> x.wish(3, 5, 9), x -> x.setGate(1, 9), x -> x.setReach(0, 1, 9),
        x -> x.setCrowd(0, 99), x -> x.setServing(7), x -> x.join(1, 7), x -> x.leave(0),
        x -> x.pass(5), x -> x.setNeed(9, 9), x -> x.setShift(3), x -> x.setLoad(0, 1, 90),
        x -> x.setGenerator(1, 199, 0, 1), x -> x.setPrice(1, 3), x -> x.ticket(4, 3, 8),
        x -> x.refund(0, 0), x -> x.resell(0, 6, 0), x -> x.payBands(), x -> x.lose(4, 0),
        x -> x.find(-1)};

    /** Those of the calls that can leave all of Edge.FULL as it is, doing so. */
    private static final Edge.Call[] SAME = {x -> x.setDate(2027, 12, 30),
        x -> x.setOpen(1, true), x -> x.setWay(0, 1, 7), null, null, x -> x.wish(0, 0, 3),
        x -> x.setGate(0, 5), x -> x.setReach(0, 0, 2), x -> x.setCrowd(0, 100),
        x -> x.setServing(4), null, null, null, x -> x.setNeed(5, 3), x -> x.setShift(6),
        x -> x.setLoad(0, 2, 50), x -> x.setGenerator(0, 100, 30, 10), x -> x.setPrice(1, 33),
        null, null, null, null, x -> x.lose(7, 2), null};

    private static final Edge.Call[] REFUSED = {x -> x.setDate(2000, 2, 30),
        x -> x.setOpen(4, true), x -> x.setWay(0, 0, 3), x -> x.act(3, 5000, 9, 0, 7),
        x -> x.drop(4), x -> x.wish(3, 5, 10), x -> x.setGate(1, 51), x -> x.setReach(0, 1, 31),
        x -> x.setCrowd(0, 2001), x -> x.setServing(11), x -> x.join(1, 0), x -> x.leave(11),
        x -> x.pass(61), x -> x.setNeed(9, 10), x -> x.setShift(11), x -> x.setLoad(1, 0, 90),
        x -> x.setGenerator(1, 201, 0, 1), x -> x.setPrice(1, 501), x -> x.ticket(0, 0, 8),
        x -> x.refund(7, 0), x -> x.resell(0, 1, 0), null, x -> x.lose(100, 0), x -> x.find(4)};

    private ChangeCalls() {
    }

    static String[] names() {
        return NAMES.clone();
    }

    static String make(Festivalgrounds x, int call) {
        return Check.outcome(() -> WORKING[call].on(x));
    }

    /** Whether the call can leave all as it is; then makeSame() does so. */
    static boolean hasSame(int call) {
        return SAME[call] != null;
    }

    static String makeSame(Festivalgrounds x, int call) {
        return Check.outcome(() -> SAME[call].on(x));
    }

    /** payBands() throws nothing, so it is not called at all. */
    static String refuse(Festivalgrounds x, int call) {
        return REFUSED[call] == null ? "throws." : Check.outcome(() -> REFUSED[call].on(x));
    }
}
