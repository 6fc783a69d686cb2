/** Promises 19, 51 and 52: rain plans. */
public final class RainTests {
    public static void main(String[] args) {
        meets();
        movesToTheLeastStage();
        piecesOnAStage();
        leavesOutTheFewest();
        leftOutComesBehindStages();
        membersDoNotMatter();
        tooMany();
        moveAll();
        howLongThePlanIsKept();
        wrongNumbers();
        Check.end("RainTests");
    }

    private static void meets() {
        Festivalgrounds x = new Festivalgrounds();
        x.setOpen(0, true);
        x.act(0, 100, 50, 30, 1);
        x.act(1, 100, 50, 0, 2);
        Check.same("52 no plan", x.movedTo(0), -1);
        Check.same("51 the check gets not wet", x.rain(70, 100), 0);
        Check.same("52", x.movedTo(0), -1);
        x.rain(100, 101);
        Check.same("52 the first minute", x.movedTo(0), 2);
        x.rain(149, 150);
        Check.same("52 the last minute", x.movedTo(0), 2);
        x.rain(150, 5760);
        Check.same("52 behind its end", x.movedTo(0), -1);
        x.rain(0, 5760);
        Check.same("52 a covered stage", x.movedTo(1), -1);
        Check.same("30 the stage stays till moveAll", x.actAt(0, 0), 0);
    }

    private static void movesToTheLeastStage() {
        Festivalgrounds x = new Festivalgrounds();
        x.setOpen(0, true);
        x.setOpen(3, true);
        x.act(3, 100, 50, 0, 1);
        x.act(0, 100, 50, 0, 1);
        x.act(0, 200, 50, 0, 1);
        Check.same("51", x.rain(0, 5760), 0);
        Check.same("52", x.movedTo(0) + " " + x.movedTo(1) + " " + x.movedTo(2), "1 2 1");
    }

    private static void piecesOnAStage() {
        Festivalgrounds x = new Festivalgrounds();
        x.setOpen(2, true);
        x.setOpen(3, true);
        x.act(0, 100, 50, 0, 1);
        x.act(1, 100, 40, 0, 1);
        x.act(1, 110, 40, 0, 1);
        x.act(2, 160, 40, 11, 1);
        Check.same("51 its check meets 0 and 2", x.rain(160, 161), 1);
        Check.same("52", x.movedTo(3), 4);
        x.drop(2);
        x.act(1, 110, 39, 0, 1);
        Check.same("51 2 ends a minute earlier", x.rain(160, 161), 0);
        Check.same("52 1 and 2 meet, but stay both", x.movedTo(3), 1);
        x.drop(0);
        x.act(0, 100, 49, 0, 1);
        x.rain(160, 161);
        Check.same("52 0 is free from 149 on", x.movedTo(3), 0);
        x.act(0, 230, 10, 30, 1);
        x.rain(160, 161);
        Check.same("52 the next piece there begins in time", x.movedTo(3), 0);
        x.drop(4);
        x.act(0, 230, 10, 31, 1);
        x.rain(160, 161);
        Check.same("52 the next piece there begins too early", x.movedTo(3), 1);
    }

    private static void leavesOutTheFewest() {
        Festivalgrounds x = new Festivalgrounds();
        x.setOpen(1, true);
        x.setOpen(2, true);
        x.setOpen(3, true);
        x.act(1, 100, 200, 0, 1);
        x.act(2, 100, 50, 0, 1);
        x.act(3, 200, 50, 0, 1);
        Check.same("51 the long one is left out", x.rain(0, 5760), 1);
        Check.same("52", x.movedTo(0) + " " + x.movedTo(1) + " " + x.movedTo(2), "4 0 0");
        Check.same("51 only the long one and one more", x.rain(100, 150), 1);
        Check.same("52 the least number goes", x.movedTo(0) + " " + x.movedTo(1), "0 4");
        Check.same("52", x.movedTo(2), -1);
        x.setOpen(0, true);
        Check.same("51 no stage is covered", x.rain(0, 5760), 3);
        Check.same("52", x.movedTo(2), 4);
    }

    private static void leftOutComesBehindStages() {
        Festivalgrounds x = new Festivalgrounds();
        x.setOpen(2, true);
        x.setOpen(3, true);
        x.act(3, 100, 20, 0, 1);
        x.act(3, 110, 40, 0, 1);
        x.act(1, 130, 20, 0, 1);
        Check.same("51", x.rain(100, 150), 0);
        Check.same("52 the first one makes room", x.movedTo(0) + " " + x.movedTo(1), "1 0");
        x.act(0, 140, 20, 0, 1);
        Check.same("51 the second one has no room at all", x.rain(100, 150), 1);
        Check.same("52", x.movedTo(0) + " " + x.movedTo(1), "0 4");
        x.drop(3);
        x.act(1, 110, 10, 0, 1);
        Check.same("51 one of both", x.rain(100, 150), 1);
        Check.same("52 the least number stays", x.movedTo(0) + " " + x.movedTo(1), "0 4");
    }

    private static void membersDoNotMatter() {
        Festivalgrounds x = new Festivalgrounds();
        x.setOpen(0, true);
        x.act(0, 100, 50, 0, 1);
        x.act(2, 100, 50, 0, 1);
        Check.same("51", x.rain(100, 101), 0);
        Check.same("52", x.movedTo(0), 1);
    }

    private static void tooMany() {
        Festivalgrounds x = new Festivalgrounds();
        x.setOpen(0, true);
        for (int act = 0; act < 7; act++) {
            x.act(0, 100 + 10 * act, 100, 0, 1);
        }
        Check.same("51 six", x.rain(100, 160), 3);
        Check.same("52", x.movedTo(0) + " " + x.movedTo(1) + " " + x.movedTo(2) + " "
                + x.movedTo(3), "1 2 3 4");
        Check.illegalState("51 seven", x, () -> x.rain(100, 161));
        Check.same("52 the plan is kept", x.movedTo(5), 4);
        Check.illegalArgument("51 first", x, () -> x.rain(0, 5761));
    }

    private static void moveAll() {
        Festivalgrounds x = new Festivalgrounds();
        Check.illegalState("19 no plan", x, () -> x.moveAll());
        x.setOpen(1, true);
        x.setOpen(2, true);
        x.setOpen(3, true);
        x.act(1, 100, 200, 0, 1);
        x.act(2, 100, 50, 0, 1);
        x.act(3, 200, 50, 0, 1);
        x.act(3, 1000, 50, 0, 1);
        x.wish(0, 0, 9);
        x.wish(0, 1, 8);
        x.rain(0, 500);
        Check.same("19", x.moveAll(), 2);
        Check.same("19", x.acts(), 3);
        Check.outOfBounds("19 dropped", x, () -> x.actAt(0, 0));
        Check.same("19", x.actAt(1, 0) + " " + x.actAt(2, 0) + " " + x.actAt(3, 0), "0 0 3");
        Check.same("19 wishes stay", x.actAt(1, 5), 8);
        Check.same("19 times stay", x.actAt(2, 1), 200);
        Check.illegalState("19 the plan is gone", x, () -> x.moveAll());
        Check.same("52", x.movedTo(1), -1);
        x.act(0, 100, 20, 0, 1);
        Check.same("19 wishes are dropped", x.actAt(0, 5), 0);
        x.undo();
        Check.same("27", x.undo(), 6);
        Check.same("27 all is back", x.acts() + " " + x.actAt(0, 5) + " " + x.actAt(1, 5) + " "
                + x.actAt(1, 0) + " " + x.actAt(2, 0), "4 9 8 2 3");
        x.rain(5000, 5001);
        Check.same("19 a plan without acts", x.moveAll(), 0);
        Check.same("27 it is a change", x.undo(), 6);
        Check.illegalState("19 undo brings no plan back", x, () -> x.moveAll());
    }

    private static void howLongThePlanIsKept() {
        Festivalgrounds x = new Festivalgrounds();
        x.setOpen(0, true);
        x.act(0, 100, 50, 0, 1);
        x.act(0, 200, 50, 0, 1);
        x.rain(100, 101);
        Check.same("51 kept", x.movedTo(0), 1);
        Check.illegalArgument("51", x, () -> x.rain(100, 100));
        Check.illegalArgument("51 a call that throws", x, () -> x.setNeed(0, 10));
        Check.noSuchElement("51 a call that throws", x, () -> x.find(-1));
        Check.same("51 kept", x.movedTo(0), 1);
        x.rain(200, 201);
        Check.same("51 the next one", x.movedTo(0) + " " + x.movedTo(1), "-1 1");
        x.setNeed(0, 0);
        Check.same("51 any change", x.movedTo(1), -1);
        Check.illegalState("19", x, () -> x.moveAll());
        x.rain(200, 201);
        x.undo();
        Check.same("51 undo, too", x.movedTo(1), -1);
        Check.illegalState("19", x, () -> x.moveAll());
        x.rain(200, 201);
        x.payBands();
        Check.illegalState("19", x, () -> x.moveAll());
    }

    private static void wrongNumbers() {
        Festivalgrounds x = new Festivalgrounds();
        Check.illegalArgument("51", x, () -> x.rain(-1, 5));
        Check.illegalArgument("51", x, () -> x.rain(5760, 5761));
        Check.illegalArgument("51", x, () -> x.rain(5759, 5759));
        Check.illegalArgument("51", x, () -> x.rain(5, 4));
        Check.illegalArgument("51", x, () -> x.rain(Integer.MAX_VALUE, Integer.MIN_VALUE));
        Check.same("51", x.rain(5759, 5760), 0);
        Check.outOfBounds("52", x, () -> x.movedTo(0));
        Check.outOfBounds("52", x, () -> x.movedTo(-1));
        Check.outOfBounds("52", x, () -> x.movedTo(16));
    }
}
