/** Promises 8 to 16: what there is. */
public final class StandTest {
    private static final int NONE = FerryRamp.NONE;

    public static void main(String[] args) {
        countOfCars();
        countOfWinch();
        countOfRamp();
        countWrong();
        setting();
        kind();
        car();
        queued();
        standing();
        lane();
        call();
        callsKept();
        account();
        Check.end();
    }

    /** Car 0 finds the slope too great, so that the crew lets car 1 drive at the time 2. */
    private static FerryRamp crewed() {
        return Check.ramp("kind 0 50 10 2; kind 1 9 10 3; cross 2 patience 2; lanes 6 load 100 list 1000;"
            + "car 1 40; car 0 30; quay 10;");
    }

    private static void dueCounts(String when, FerryRamp x, int... want) {
        for (int what = 0; what < want.length; what++) {
            Check.due(when + ": count(" + what + ")", x.count(what), want[what]);
        }
    }

    private static void countOfCars() {
        FerryRamp x = crewed();
        dueCounts("loaded", x, 0, 2, 0, 2, 0, 0, 0, 0, NONE, 0, 0, 0, 0, 0, 0, 0, 1, 0);
        x.tick(1);
        dueCounts("1 tick", x, 1, 2, 0, 2, 0, 0, 0, 0, NONE, 0, 0, 1, 0, 0, 0, 0, 1, 1);
        x.tick(1);
        dueCounts("2 ticks", x, 2, 1, 0, 2, 0, 0, 0, 0, 1, 0, 0, 0, 1, 0, 0, 0, 1, 2);
        x.tick(1);
        dueCounts("3 ticks", x, 3, 1, 0, 2, 0, 0, 0, 0, 1, 1, 0, 0, 1, 0, 0, 10, 1, 3);
        x.tick(1);
        dueCounts("4 ticks", x, 4, 1, 1, 2, 0, 0, 0, 30, NONE, 0, 0, 1, 1, 1, 0, 10, 1, 4);
        x.tick(1);
        dueCounts("5 ticks", x, 5, 1, 1, 2, 0, 0, 0, 30, NONE, 0, 0, 0, 2, 1, 0, 10, 1, 5);
        x.unload(0);
        dueCounts("unloaded", x, 5, 1, 0, 2, 0, 0, 0, 0, NONE, 0, 0, 0, 2, 1, 1, 10, 1, 6);
        x.setGate(false);
        x.arrive(0, 5);
        x.tick(1);
        dueCounts("behind the gate", x, 6, 2, 0, 3, 0, 0, 0, 0, NONE, 0, 0, 0, 2, 1, 1, 10, 0, 8);
        x.tick(1);
        Check.due("8 acts at most", x.count(17), 8);
    }

    private static void countOfWinch() {
        FerryRamp x = Check.ramp("tide 0 40 half 4; car 0 50;");
        x.tick(1);
        Check.due("waking", x.count(5), 1);
        Check.due("ticks left", x.count(6), 2);
        Check.due("END stays", x.count(4), 0);
        Check.due("the car begins at the lip 10", x.count(8), 0);
        x.tick(1);
        Check.due("waking still", x.count(5), 1);
        Check.due("1 tick left", x.count(6), 1);
        Check.due("it stood", x.count(10), 1);
        Check.due("it has not driven", x.count(9), 0);
        x.tick(1);
        Check.due("awake", x.count(5), 2);
        Check.due("no ticks left", x.count(6), 0);
        Check.due("END moved", x.count(4), 2);
        Check.due("it stood again", x.count(10), 2);
        Check.due("it never drove", x.count(15), 0);
    }

    private static void countOfRamp() {
        FerryRamp x = Check.ramp("quay 7; cross 3 patience 5; car 0 50; car 0 60;");
        x.tick(3);
        Check.due("on the ramp", x.count(8), 0);
        Check.due("driven in", x.count(9), 2);
        x.tick(1);
        Check.due("the next one is on the ramp in the same tick", x.count(8), 1);
        Check.due("it has not driven yet", x.count(9), 0);
        Check.due("the load is that on deck", x.count(7), 50);
        Check.due("the slope driven on", x.count(15), 7);
    }

    private static void countWrong() {
        FerryRamp x = new FerryRamp();
        for (int what : new int[] {-1, 18, 19, Integer.MIN_VALUE, Integer.MAX_VALUE}) {
            Check.throwsArgument("count(" + what + ")", () -> x.count(what));
        }
    }

    private static void setting() {
        FerryRamp x = Check.ramp("tide -1 2 half 3; quay 4; deck 5 sink 6; lanes 7 load 8 list 9; winch 10 11 12;"
            + "cross 13 patience 14;");
        int[] want = {-1, 2, 3, 4, 5, 6, 7, 8, 9, 10, 11, 12, 13, 14};
        for (int what = 0; what < want.length; what++) {
            Check.due("setting(" + what + ")", x.setting(what), want[what]);
        }
        for (int what : new int[] {-1, 14, Integer.MIN_VALUE, Integer.MAX_VALUE}) {
            Check.throwsArgument("setting(" + what + ")", () -> x.setting(what));
        }
    }

    private static void kind() {
        FerryRamp x = Check.ramp("kind 3 7 8 9; kind 0 4 5 6;");
        int[][] want = {{4, 5, 6}, {100, 10, 2}, {100, 10, 3}, {7, 8, 9}};
        for (int kind = 0; kind < 4; kind++) {
            for (int what = 0; what < 3; what++) {
                Check.due("kind(" + kind + ", " + what + ")", x.kind(kind, what), want[kind][what]);
            }
        }
        Check.throwsIndex("kind(-1, 0)", () -> x.kind(-1, 0));
        Check.throwsIndex("kind(4, 9)", () -> x.kind(4, 9));
        Check.throwsIndex("kind(MAX, 0)", () -> x.kind(Integer.MAX_VALUE, 0));
        Check.throwsArgument("kind(3, 3)", () -> x.kind(3, 3));
        Check.throwsArgument("kind(0, -1)", () -> x.kind(0, -1));
    }

    private static void dueCar(String when, FerryRamp x, int car, int... want) {
        for (int what = 0; what < want.length; what++) {
            Check.due(when + ": car(" + car + ", " + what + ")", x.car(car, what), want[what]);
        }
    }

    private static void car() {
        FerryRamp x = crewed();
        x.tick(1);
        x.arrive(0, 20);
        dueCar("queued", x, 2, 0, 20, 0, NONE, 1, NONE, NONE);
        x.tick(1);
        dueCar("on the ramp", x, 1, 0, 30, 1, 0, 0, 2, NONE);
        x.tick(2);
        dueCar("on deck", x, 1, 0, 30, 2, 0, 0, 2, 4);
        x.unload(0);
        dueCar("unloaded", x, 1, 0, 30, 3, 0, 0, 2, 4);
        x.dismiss(0);
        dueCar("dismissed", x, 0, 1, 40, 4, NONE, 0, NONE, NONE);
        x.tick(1);
        dueCar("the last one on the ramp", x, 2, 0, 20, 1, 0, 1, 5, NONE);
        Check.throwsIndex("car(3, 0)", () -> x.car(3, 0));
        Check.throwsIndex("car(-1, 9)", () -> x.car(-1, 9));
        Check.throwsIndex("car(MAX, 0)", () -> x.car(Integer.MAX_VALUE, 0));
        Check.throwsArgument("car(2, 7)", () -> x.car(2, 7));
        Check.throwsArgument("car(0, -1)", () -> x.car(0, -1));
    }

    private static void queued() {
        FerryRamp x = Check.ramp("car 0 5; car 1 6; car 2 7; car 3 8;");
        x.wave(2);
        x.dismiss(1);
        int[] want = {2, 0, 3, NONE};
        for (int index = 0; index < want.length; index++) {
            Check.due("queued(" + index + ")", x.queued(index), want[index]);
        }
        Check.due("queued(-1)", x.queued(-1), NONE);
        Check.due("queued(MIN)", x.queued(Integer.MIN_VALUE), NONE);
        Check.due("queued(MAX)", x.queued(Integer.MAX_VALUE), NONE);
        Check.due("queued(20)", x.queued(20), NONE);
    }

    private static void standing() {
        FerryRamp x = Check.ramp("cross 1 patience 5; car 0 10; car 0 20; car 0 30; car 0 5; car 0 1;");
        x.tick(5);
        Check.due("the first one of the lane 0", x.standing(0, 0), 0);
        Check.due("the second one of the lane 0", x.standing(0, 1), 3);
        Check.due("a car on the ramp does not stand there", x.standing(0, 2), NONE);
        Check.due("but drives there", x.car(4, 3), 0);
        Check.due("the lane 1", x.standing(1, 0), 1);
        Check.due("the lane 2", x.standing(2, 0), 2);
        Check.due("no more in the lane 1", x.standing(1, 1), NONE);
        Check.due("standing(0, -1)", x.standing(0, -1), NONE);
        Check.due("standing(2, MAX)", x.standing(2, Integer.MAX_VALUE), NONE);
        Check.due("standing(1, -30)", x.standing(1, -30), NONE);
        Check.throwsIndex("standing(3, 0)", () -> x.standing(3, 0));
        Check.throwsIndex("standing(-1, 0)", () -> x.standing(-1, 0));
        FerryRamp full = Check.ramp("cross 1 patience 5; lanes 30 load 9999 list 0; car 0 1;");
        for (int car = 1; car < 60; car++) {
            full.arrive(0, 1);
            full.tick(1);
        }
        full.tick(2);
        Check.due("30 cars: the last one", full.standing(1, 29), 29);
        Check.due("30 cars: behind it", full.standing(1, 30), NONE);
        Check.due("none in the lane 0", full.standing(0, 0), NONE);
    }

    private static void lane() {
        FerryRamp x = Check.ramp("kind 0 100 10 3; cross 1 patience 5; car 0 10; car 1 20; car 0 30; car 1 5;");
        x.tick(1);
        Check.due("with the car on the ramp: weight", x.lane(0, false), 10);
        Check.due("with the car on the ramp: free", x.lane(0, true), 7);
        x.tick(1);
        Check.due("with the next one: weight", x.lane(1, false), 20);
        Check.due("with the next one: free", x.lane(1, true), 8);
        Check.due("the lane 0 keeps its weight", x.lane(0, false), 10);
        Check.due("the lane 0 keeps its length", x.lane(0, true), 7);
        Check.due("the lane 2: weight", x.lane(2, false), 0);
        Check.due("the lane 2: free", x.lane(2, true), 10);
        x.tick(3);
        Check.due("two cars: weight", x.lane(0, false), 15);
        Check.due("two cars: free", x.lane(0, true), 5);
        x.unload(0);
        Check.due("one unloaded: weight", x.lane(0, false), 10);
        Check.due("one unloaded: free", x.lane(0, true), 7);
        Check.throwsIndex("lane(3, true)", () -> x.lane(3, true));
        Check.throwsIndex("lane(-1, false)", () -> x.lane(-1, false));
    }

    private static void dueCall(FerryRamp x, int call, int... want) {
        for (int what = 0; what < want.length; what++) {
            Check.due("call(" + call + ", " + what + ")", x.call(call, what), want[what]);
        }
    }

    private static void call() {
        FerryRamp x = crewed();
        x.tick(1);
        Check.throwsIndex("call(0, 0) ahead of all", () -> x.call(0, 0));
        x.tick(1);
        dueCall(x, 0, 2, 0, 6, 1);
        x.tick(3);
        dueCall(x, 0, 5, 0, 6, NONE);
        dueCall(x, 1, 2, 0, 6, 1);
        Check.throwsIndex("call(2, 0)", () -> x.call(2, 0));
        Check.throwsIndex("call(-1, 9)", () -> x.call(-1, 9));
        Check.throwsArgument("call(0, 4)", () -> x.call(0, 4));
        Check.throwsArgument("call(1, -1)", () -> x.call(1, -1));
        FerryRamp order = Check.ramp("kind 0 0 0 1; kind 1 100 10 1; kind 2 0 9 1; quay 1; cross 1 patience 1; car 0 1;"
            + "car 2 2; car 1 3; car 1 4;");
        order.tick(1);
        dueCall(order, 0, 1, 0, 6, 2);
        FerryRamp waved = crewed();
        waved.arrive(1, 20);
        waved.wave(2);
        waved.tick(2);
        dueCall(waved, 0, 2, 2, 6, 1);
        FerryRamp lip = Check.ramp("cross 1 patience 1; kind 1 100 3 1; car 0 1; car 1 2; winch 1 50 0;");
        lip.crank(4);
        lip.wave(1);
        lip.tick(1);
        dueCall(lip, 0, 1, 1, 7, 0);
    }

    private static void callsKept() {
        FerryRamp x = Check.ramp("quay 500; cross 1 patience 1; car 0 1;");
        x.tick(20);
        dueCall(x, 19, 1, 0, 6, NONE);
        x.tick(3);
        Check.due("calls so far", x.count(12), 23);
        dueCall(x, 0, 23, 0, 6, NONE);
        dueCall(x, 19, 4, 0, 6, NONE);
        Check.throwsIndex("call(20, 0)", () -> x.call(20, 0));
        x.tick(50);
        dueCall(x, 0, 73, 0, 6, NONE);
        dueCall(x, 7, 66, 0, 6, NONE);
        dueCall(x, 19, 54, 0, 6, NONE);
    }

    private static void account() {
        FerryRamp x = new FerryRamp();
        x.arrive(0, 5);
        x.crank(0);
        x.wave(0);
        x.wave(7);
        x.unload(1);
        x.setGate(true);
        Check.due("account(0)", x.account(0), 1);
        Check.due("account(1)", x.account(1), 4);
        Check.due("account(2)", x.account(2), 1);
        x.tick(4);
        x.crank(20);
        x.unload(0);
        Check.due("account(4): the lip", x.account(4), 1);
        x.undo();
        Check.due("acts that were undone count", x.account(0), 3);
        FerryRamp steep = Check.ramp("kind 0 5 9 1; car 0 5;");
        steep.tick(4);
        steep.crank(6);
        steep.unload(0);
        Check.due("account(3): the slope", steep.account(3), 1);
        Check.due("what throws does not count", steep.account(1), 0);
        Check.throwsIndex("unload(3)", () -> steep.unload(3));
        Check.throwsArgument("tick(51)", () -> steep.tick(51));
        Check.due("what throws is not done", steep.account(0), 2);
        for (int what : new int[] {-1, 5, Integer.MIN_VALUE, Integer.MAX_VALUE}) {
            Check.throwsArgument("account(" + what + ")", () -> x.account(what));
        }
    }
}
