/**
 * "A call that throws changes nothing", and no more do questions: what is asked twice is answered
 * twice the same, and what was asked ahead of a change is answered by what is behind it.
 */
public final class AskedAgainTests {
    public static void main(String[] args) {
        questionsTwice();
        questionsAroundEachChange();
        lineupAroundChanges();
        eveningsAroundChanges();
        helpersAroundChanges();
        powerAroundChanges();
        rainAroundRain();
        Check.end("AskedAgainTests");
    }

    private static String questions(Festivalgrounds x) {
        StringBuilder text = new StringBuilder();
        text.append(x.acts()).append(' ').append(x.clashes()).append(' ');
        text.append(x.pleased(false)).append(' ').append(x.pleased(true)).append(' ');
        text.append(x.lineupShare()).append(' ').append(x.checksum()).append(' ');
        for (int i = 0; i < 16; i++) {
            int act = i;
            text.append(Check.outcome(() -> x.actAt(act, 6))).append(' ');
        }
        for (int day = 0; day < 4; day++) {
            text.append(x.meanEvening(day)).append(' ').append(x.evening(0, day)).append(' ');
        }
        for (int i = 0; i < 16; i++) {
            int act = i;
            text.append(Check.outcome(() -> x.price(0, act))).append(' ');
        }
        text.append(x.outBy()).append(' ').append(x.cut()).append(' ');
        text.append(x.waits(false)).append(' ').append(x.waits(true)).append(' ');
        for (int hour = -1; hour < 24; hour++) {
            text.append(x.helpers(hour)).append(' ');
        }
        text.append(x.proof()).append(' ').append(x.cost()).append(' ');
        for (int i = 0; i < 24; i++) {
            int hour = i;
            text.append(Check.outcome(() -> x.isOn(hour))).append(' ');
        }
        return text.append(x.lost()).append(' ').append(x.errors()).toString();
    }

    private static void questionsTwice() {
        Festivalgrounds x = Edge.made(Edge.FULL);
        String first = questions(x);
        Check.same("10 asked twice", questions(x), first);
        Festivalgrounds empty = Edge.made(Edge.NEW);
        first = questions(empty);
        Check.same("10 asked twice, of a new festival", questions(empty), first);
    }

    private static void questionsAroundEachChange() {
        String[] names = ChangeCalls.names();
        for (int call = 0; call < names.length; call++) {
            Festivalgrounds x = Edge.made(Edge.FULL);
            questions(x);
            ChangeCalls.make(x, call);
            Festivalgrounds due = Edge.made(Edge.FULL);
            ChangeCalls.make(due, call);
            Check.same("10 asked around " + names[call], questions(x), questions(due));
            x.undo();
            due.undo();
            Check.same("27 asked around undo() of " + names[call], questions(x),
                    questions(due));
        }
    }

    private static void lineupAroundChanges() {
        Festivalgrounds x = new Festivalgrounds();
        x.act(0, 100, 50, 0, 1);
        x.act(0, 120, 50, 0, 1);
        x.wish(0, 0, 1);
        x.wish(0, 1, 2);
        Check.same("35 they clash", x.pleased(false) + " " + x.pleased(true), "2 2");
        x.drop(1);
        Check.same("35 one is dropped", x.pleased(false) + " " + x.pleased(true), "1 1");
        Check.same("30 it is in", x.actAt(0, 6), 1);
        x.act(0, 150, 50, 0, 1);
        x.wish(0, 1, 2);
        Check.same("35 they clash no more", x.pleased(false) + " " + x.pleased(true), "3 3");
        x.undo();
        x.undo();
        x.undo();
        Check.same("27 they clash again", x.pleased(false) + " " + x.pleased(true), "2 2");
        x.setOpen(0, true);
        x.rain(100, 110);
        x.moveAll();
        Check.same("19 on another stage they clash by the member", x.pleased(false) + " "
                + x.pleased(true), "2 3");
    }

    private static void eveningsAroundChanges() {
        Festivalgrounds x = new Festivalgrounds();
        x.act(0, 100, 50, 0, 1);
        x.act(1, 160, 50, 0, 1);
        x.wish(0, 0, 1);
        x.wish(0, 1, 2);
        Check.same("36 both", x.evening(0, 0) + " " + x.price(0, 0), "3 3");
        Check.same("36 another visitor behind it", x.evening(1, 0) + " " + x.price(1, 0), "0 0");
        x.setWay(0, 1, 11);
        Check.same("36 too far", x.evening(0, 0) + " " + x.price(0, 0), "2 1");
        x.drop(1);
        Check.same("36 one is dropped", x.evening(0, 0) + " " + x.price(0, 0), "1 1");
        x.act(0, 200, 50, 0, 1);
        Check.same("36 its number is given again", x.evening(0, 0) + " " + x.price(0, 1), "1 0");
        x.drop(0);
        Check.same("36 none is wished", x.evening(0, 0), 0);
    }

    private static void helpersAroundChanges() {
        Festivalgrounds x = new Festivalgrounds();
        x.setNeed(3, 5);
        x.setNeed(20, 4);
        Check.same("47 two hours", x.helpers(-1) + " " + x.helpers(3) + " " + x.helpers(16),
                "9 5 4");
        Check.same("48 two hours", x.proof(), 1 << 3 | 1 << 20);
        x.setNeed(3, 1);
        Check.same("47 fewer", x.helpers(-1) + " " + x.helpers(3) + " " + x.helpers(16), "5 1 4");
        x.setNeed(20, 0);
        Check.same("47 one hour", x.helpers(-1) + " " + x.helpers(16), "1 0");
        Check.same("48 one hour", x.proof(), 1 << 3);
        x.setNeed(3, 0);
        Check.same("47 none", x.helpers(-1) + " " + x.proof(), "0 0");
    }

    private static void powerAroundChanges() {
        Festivalgrounds x = new Festivalgrounds();
        x.setGenerator(0, 100, 7, 5);
        x.setLoad(4, 5, 60);
        Check.same("49 two hours", x.cost() + " " + x.isOn(4) + " " + x.isOn(6), "17 1 0");
        x.setLoad(5, 5, 101);
        Check.same("49 no plan", x.cost(), -1);
        x.setLoad(5, 5, 0);
        Check.same("49 one hour", x.cost() + " " + x.isOn(4) + " " + x.isOn(5), "12 1 0");
        x.setLoad(4, 4, 0);
        Check.same("49 none", x.cost() + " " + x.isOn(4), "0 0");
    }

    private static void rainAroundRain() {
        Festivalgrounds x = new Festivalgrounds();
        x.setOpen(0, true);
        for (int act = 0; act < 6; act++) {
            x.act(0, 100 + 60 * act, 50, 0, 1);
        }
        Check.same("51 six", x.rain(0, 5760) + " " + x.movedTo(5), "0 1");
        Check.same("51 then one", x.rain(400, 401) + " " + x.movedTo(5) + " " + x.movedTo(0),
                "0 1 -1");
        Check.same("51 then none", x.rain(0, 100) + " " + x.movedTo(5) + " " + x.movedTo(0),
                "0 -1 -1");
        Check.same("51 then two", x.rain(149, 161) + " " + x.movedTo(0) + " " + x.movedTo(1)
                + " " + x.movedTo(2), "0 1 1 -1");
        Check.same("19 two are moved", x.moveAll(), 2);
        Check.same("19 four stay", x.actAt(1, 0) + " " + x.actAt(2, 0), "1 0");
    }
}
