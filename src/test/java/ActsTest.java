/** Promises 33 to 41: acts. What is refused changes nothing but the accounts. */
public final class ActsTest {
    private static final int NONE = FerryRamp.NONE;

    public static void main(String[] args) {
        tick();
        tickWinch();
        tickWinchDown();
        tickOrder();
        tickStandsStill();
        tickWaiting();
        tickCrew();
        arrive();
        arriveLimits();
        wave();
        dismiss();
        unload();
        setGate();
        crank();
        setWinch();
        setWinchWaking();
        setCross();
        Check.end();
    }

    /** What an act that is refused, or throws, must leave as it is. */
    private static String all(FerryRamp x) {
        StringBuilder text = new StringBuilder();
        for (int what = 0; what < 18; what++) {
            text.append(x.count(what)).append(' ');
        }
        for (int what = 0; what < 14; what++) {
            text.append(x.setting(what)).append(' ');
        }
        for (int car = 0; car < x.count(3); car++) {
            for (int what = 0; what < 7; what++) {
                text.append(x.car(car, what)).append(' ');
            }
        }
        for (int index = 0; index < x.count(1); index++) {
            text.append(x.queued(index)).append(' ');
        }
        return text.append(x.account(0)).toString();
    }

    private static void tick() {
        FerryRamp x = Check.ramp("car 0 5; car 0 6; car 0 7;");
        Check.due("tick(1)", x.tick(1), 0);
        Check.due("tick(2)", x.tick(2), 0);
        Check.due("tick(1) with a car that comes on deck", x.tick(1), 1);
        Check.due("tick(50)", x.tick(50), 2);
        Check.due("TIME", x.count(0), 54);
        Check.due("one act each", x.account(0), 4);
        String before = all(x);
        for (int many : new int[] {0, 51, -1, Integer.MAX_VALUE, Integer.MIN_VALUE}) {
            Check.throwsArgument("tick(" + many + ")", () -> x.tick(many));
        }
        Check.dueText("what throws changes nothing", all(x), before);
    }

    private static void dueWinch(String when, FerryRamp x, int winch, int left, int end, int lip) {
        Check.due(when + ": the winch", x.count(5), winch);
        Check.due(when + ": ticks left", x.count(6), left);
        Check.due(when + ": END", x.count(4), end);
        Check.due(when + ": the lip", x.lip(), lip);
    }

    private static void tickWinch() {
        FerryRamp x = Check.ramp("tide 0 30 half 10; winch 4 6 2;");
        x.tick(1);
        dueWinch("at 1", x, 0, 0, 0, 3);
        x.tick(1);
        dueWinch("at 2, the lip is SLACK", x, 0, 0, 0, 6);
        x.tick(1);
        dueWinch("at 3", x, 1, 2, 0, 9);
        x.tick(1);
        dueWinch("at 4", x, 1, 1, 0, 12);
        x.tick(1);
        dueWinch("at 5", x, 2, 0, 4, 11);
        x.tick(5);
        dueWinch("at 10", x, 2, 0, 24, 6);
        x.tick(1);
        dueWinch("at 11", x, 0, 0, 27, 0);
    }

    private static void tickWinchDown() {
        FerryRamp x = Check.ramp("winch 4 5 0;");
        x.crank(5);
        x.tick(1);
        dueWinch("a lip of SLACK", x, 0, 0, 5, 5);
        x.crank(5);
        x.tick(1);
        dueWinch("WAKE 0: it pulls at once", x, 2, 0, 6, 6);
        x.tick(1);
        dueWinch("awake it heeds no SLACK", x, 2, 0, 2, 2);
        x.tick(1);
        dueWinch("the rest of the lip", x, 0, 0, 0, 0);
        x.crank(6);
        x.crank(-6);
        x.tick(1);
        dueWinch("nothing to do", x, 0, 0, 0, 0);
        FerryRamp y = Check.ramp("winch 4 5 2;");
        y.crank(-10);
        y.tick(1);
        dueWinch("it is waking", y, 1, 2, -10, 10);
        y.crank(10);
        y.tick(1);
        dueWinch("whatever the lip is by now", y, 1, 1, 0, 0);
        y.tick(1);
        dueWinch("awake, and asleep at the lip 0", y, 0, 0, 0, 0);
        FerryRamp z = Check.ramp("winch 20 5 0;");
        z.crank(-20);
        z.tick(1);
        dueWinch("all in one tick", z, 0, 0, 0, 0);
        z.crank(-20);
        z.crank(-20);
        z.tick(1);
        dueWinch("PULL in one tick", z, 2, 0, -20, 20);
        z.crank(20);
        z.tick(1);
        dueWinch("awake at the lip 0", z, 0, 0, 0, 0);
    }

    /** TIME grows first, then the winch pulls, then the car drives, then the next one begins. */
    private static void tickOrder() {
        FerryRamp x = Check.ramp("tide 0 10 half 1; winch 10 0 0; kind 0 10 0 1; cross 1 patience 9; car 0 5; car 0 6;"
            + "car 0 7;");
        x.tick(1);
        Check.due("the winch pulled ahead of the car", x.count(8), 0);
        Check.due("END at the tide of 1", x.count(4), 10);
        x.tick(1);
        Check.due("on deck and the next one on the ramp", x.count(8), 1);
        Check.due("the slope when it drove", x.count(15), 0);
        x.tick(1);
        Check.due("the slope of the next one", x.count(15), 10);
        Check.due("it came on deck at 3", x.car(1, 6), 3);
        Check.due("the last one began at 3", x.car(2, 5), 3);
        FerryRamp sunk = Check.ramp("deck 50 sink 1; winch 1 50 0; kind 0 500 4 1; cross 1 patience 9; car 0 5; car 0 6;");
        sunk.tick(2);
        Check.due("the deck sinks ahead of the next one", sunk.count(8), NONE);
        Check.due("its reason", sunk.whyNot(1), 7);
        Check.due("it waits", sunk.count(11), 1);
    }

    private static void tickStandsStill() {
        FerryRamp x = Check.ramp("tide 0 40 half 10; winch 20 50 0; kind 0 500 4 1; cross 3 patience 9; car 0 5;");
        x.tick(1);
        Check.due("a lip of 4", x.count(8), 0);
        x.tick(3);
        Check.due("it stands", x.count(10), 3);
        Check.due("it has not driven", x.count(9), 0);
        x.tick(14);
        Check.due("it stands while the lip is 8 at least", x.count(10), 17);
        x.tick(1);
        Check.due("it drives at the lip 4", x.count(9), 1);
        x.tick(2);
        Check.due("and on", x.count(9), 0);
        Check.due("it is on deck at 21", x.car(0, 6), 21);
        FerryRamp steep = Check.ramp("tide 0 40 half 10; winch 20 0 0; kind 0 4 99 1; cross 3 patience 9; car 0 5;");
        steep.tick(1);
        Check.due("a slope of 4", steep.count(8), 0);
        steep.tick(1);
        Check.due("a slope of 8", steep.count(10), 1);
        steep.tick(17);
        Check.due("until it is 4", steep.count(9), 1);
        Check.due("the greatest it drove on", steep.count(15), 4);
        Check.due("it stood", steep.count(10), 17);
        steep.tick(2);
        Check.due("it is on deck", steep.count(2), 1);
    }

    private static void tickWaiting() {
        FerryRamp x = Check.ramp("quay 50; kind 0 5 5 1; cross 3 patience 5; car 0 5; car 0 6;");
        x.tick(3);
        Check.due("WAITING", x.count(11), 3);
        x.setGate(false);
        x.tick(4);
        Check.due("WAITING with the gate closed", x.count(11), 3);
        x.wave(1);
        Check.due("WAITING behind wave()", x.count(11), 3);
        x.setGate(true);
        x.tick(1);
        Check.due("WAITING then", x.count(11), 4);
        x.dismiss(1);
        Check.due("WAITING behind dismiss()", x.count(11), 4);
        x.dismiss(0);
        x.tick(3);
        Check.due("WAITING with no queue", x.count(11), 4);
        x.arrive(1, 7);
        x.tick(1);
        Check.due("WAITING as a car begins", x.count(11), 0);
        x.arrive(0, 7);
        x.tick(2);
        Check.due("WAITING with a car on the ramp", x.count(11), 0);
        x.tick(1);
        Check.due("WAITING as soon as it is free", x.count(11), 1);
        Check.due("no call of the crew so far", x.count(12), 0);
        x.tick(4);
        Check.due("a call at PATIENCE", x.count(12), 1);
        Check.due("WAITING anew", x.count(11), 0);
        FerryRamp full = Check.ramp("lanes 1 load 1000 list 1000; cross 3 patience 5; car 1 5;");
        full.tick(4);
        Check.due("WAITING for the reason 3", full.count(11), 4);
    }

    private static void tickCrew() {
        FerryRamp x = Check.ramp("quay 50; kind 0 5 5 1; kind 3 100 10 9; lanes 8 load 1000 list 1000; cross 1 patience 2;"
            + "car 0 5; car 0 6; car 3 7; car 1 8; car 1 9;");
        x.tick(1);
        Check.due("none yet", x.count(8), NONE);
        x.tick(1);
        Check.due("the first that could", x.count(8), 3);
        Check.due("the queue", x.queued(0), 0);
        Check.due("the queue behind it", x.queued(2), 2);
        Check.due("and its end", x.queued(3), 4);
        Check.due("its lane", x.car(3, 3), 0);
        Check.due("it began", x.car(3, 5), 2);
        x.tick(1);
        Check.due("it does not drive in the tick in which it begins", x.car(3, 6), 3);
        Check.due("WAITING", x.count(11), 1);
        x.tick(1);
        Check.due("the next one", x.count(8), 4);
        Check.due("in the lane 1", x.car(4, 3), 1);
        x.tick(3);
        Check.due("three calls", x.count(12), 3);
        Check.due("at 6", x.call(0, 0), 6);
        Check.due("without a car", x.call(0, 3), NONE);
        Check.due("and WAITING goes on", x.count(11), 1);
    }

    private static void arrive() {
        FerryRamp x = new FerryRamp();
        Check.due("arrive()", x.arrive(3, 999), 0);
        x.tick(2);
        Check.due("arrive() then", x.arrive(0, 1), 1);
        Check.due("its time", x.car(1, 4), 2);
        Check.due("its kind", x.car(1, 0), 0);
        Check.due("its weight", x.car(1, 1), 1);
        Check.due("the other's kind", x.car(0, 0), 3);
        Check.due("the other's weight", x.car(0, 1), 999);
        Check.due("arrive() last", x.arrive(1, 2), 2);
        Check.due("at the end of the queue", x.queued(1), 2);
        String before = all(x);
        Check.throwsIndex("arrive(4, 0)", () -> x.arrive(4, 0));
        Check.throwsIndex("arrive(-1, 5)", () -> x.arrive(-1, 5));
        Check.throwsIndex("arrive(MAX, 5)", () -> x.arrive(Integer.MAX_VALUE, 5));
        Check.throwsArgument("arrive(0, 0)", () -> x.arrive(0, 0));
        Check.throwsArgument("arrive(3, 1000)", () -> x.arrive(3, 1000));
        Check.throwsArgument("arrive(0, MIN)", () -> x.arrive(0, Integer.MIN_VALUE));
        Check.dueText("what throws changes nothing", all(x), before);
    }

    private static void arriveLimits() {
        FerryRamp x = new FerryRamp();
        x.setGate(false);
        for (int car = 0; car < 20; car++) {
            Check.due("arrive()", x.arrive(0, 5), car);
        }
        String before = all(x);
        Check.due("a queue of 20", x.arrive(0, 5), -2);
        Check.dueText("what is refused changes nothing", all(x), before);
        Check.due("its account", x.account(2), 1);
        Check.throwsArgument("exceptions ahead of reasons", () -> x.arrive(0, 1000));
        for (int car = 20; car < 60; car++) {
            x.dismiss(car - 20);
            Check.due("arrive()", x.arrive(0, 5), car);
        }
        Check.due("60 cars come ahead of 20", x.arrive(0, 5), -1);
        Check.due("the account of 60", x.account(1), 1);
        x.dismiss(59);
        Check.due("60 cars so far", x.arrive(0, 5), -1);
        Check.due("cars so far", x.count(3), 60);
        Check.throwsIndex("exceptions ahead of 60", () -> x.arrive(4, 5));
        x.undo();
        x.undo();
        Check.due("undone", x.arrive(1, 6), 59);
    }

    private static void wave() {
        FerryRamp x = Check.ramp("car 0 1; car 0 2; car 0 3; car 0 4;");
        Check.due("wave(2)", x.wave(2), 2);
        Check.due("wave(3)", x.wave(3), 3);
        int[] want = {3, 2, 0, 1, NONE};
        for (int index = 0; index < want.length; index++) {
            Check.due("queued(" + index + ")", x.queued(index), want[index]);
        }
        String before = all(x);
        Check.due("wave() of the first one", x.wave(3), -2);
        Check.due("wave() of no car yet", x.wave(4), -1);
        Check.due("wave(59)", x.wave(59), -1);
        Check.dueText("what is refused changes nothing", all(x), before);
        x.tick(1);
        Check.due("wave() of a car on the ramp", x.wave(3), -1);
        Check.due("the account 1", x.account(1), 3);
        Check.due("the account 2", x.account(2), 1);
        Check.due("wave() at the second place", x.wave(0), 1);
        Check.throwsIndex("wave(60)", () -> x.wave(60));
        Check.throwsIndex("wave(-1)", () -> x.wave(-1));
        Check.throwsIndex("wave(MIN)", () -> x.wave(Integer.MIN_VALUE));
    }

    private static void dismiss() {
        FerryRamp x = Check.ramp("car 0 1; car 0 2; car 0 3; car 0 4;");
        Check.due("dismiss(1)", x.dismiss(1), 3);
        Check.due("dismiss(3)", x.dismiss(3), 2);
        Check.due("queued(0)", x.queued(0), 0);
        Check.due("queued(1)", x.queued(1), 2);
        Check.due("queued(2)", x.queued(2), NONE);
        Check.due("where it is", x.car(1, 2), 4);
        x.tick(1);
        String before = all(x);
        Check.due("dismiss() of a car on the ramp", x.dismiss(0), -1);
        Check.due("dismiss() once more", x.dismiss(1), -1);
        Check.due("dismiss(59)", x.dismiss(59), -1);
        Check.dueText("what is refused changes nothing", all(x), before);
        Check.due("the account 1", x.account(1), 3);
        Check.due("dismiss() of the last one", x.dismiss(2), 0);
        Check.throwsIndex("dismiss(60)", () -> x.dismiss(60));
        Check.throwsIndex("dismiss(-1)", () -> x.dismiss(-1));
        Check.throwsIndex("dismiss(MAX)", () -> x.dismiss(Integer.MAX_VALUE));
    }

    private static void unload() {
        FerryRamp x = Check.ramp("deck 40 sink 10; kind 0 50 6 2; quay 20; cross 1 patience 1; winch 1 9 0; car 0 10; car 1 20;"
            + "car 1 30; car 0 10;");
        Check.due("no car yet", x.unload(0), -1);
        x.tick(1);
        Check.due("no car on deck comes ahead of the ramp", x.unload(0), -1);
        x.tick(3);
        Check.due("a car on the ramp", x.unload(0), -2);
        x.tick(1);
        Check.due("the lip", x.lip(), 7);
        String before = all(x);
        Check.due("a lip too great for the last car", x.unload(0), -4);
        Check.dueText("what is refused changes nothing", all(x), before);
        Check.due("not for another kind", x.unload(2), 2);
        Check.due("the deck rises", x.lip(), 4);
        x.crank(2);
        Check.due("one too much", x.crank(1), 7);
        Check.due("a lip too great", x.unload(0), -4);
        Check.due("not too much", x.crank(-1), 6);
        Check.due("then", x.unload(0), 3);
        Check.due("and the one ahead of it", x.unload(0), 0);
        Check.due("and none", x.unload(0), -1);
        Check.due("the load", x.count(7), 20);
        Check.due("on deck", x.count(2), 1);
        Check.due("unloaded", x.count(14), 3);
        Check.due("came on deck", x.count(13), 4);
        Check.due("where it is", x.car(3, 2), 3);
        Check.due("its lane", x.car(3, 3), 0);
        Check.due("free of the lane", x.lane(0, true), 10);
        while (x.slope() < 100) {
            x.crank(1);
        }
        Check.due("END is above", x.count(4), 120);
        Check.due("the lip alone", x.unload(1), -4);
        x.crank(1);
        Check.due("the slope comes ahead of the lip", x.unload(1), -3);
        Check.throwsIndex("unload(3)", () -> x.unload(3));
        Check.throwsIndex("unload(-1)", () -> x.unload(-1));
        Check.throwsIndex("unload(MAX)", () -> x.unload(Integer.MAX_VALUE));
    }

    private static void setGate() {
        FerryRamp x = Check.ramp("car 0 5;");
        String before = all(x);
        Check.due("setGate(true) of an open gate", x.setGate(true), -1);
        Check.dueText("what is refused changes nothing", all(x), before);
        Check.due("setGate(false)", x.setGate(false), 0);
        Check.due("it is closed", x.count(16), 0);
        Check.due("setGate(false) of a closed gate", x.setGate(false), -1);
        x.tick(9);
        Check.due("none begins", x.count(8), NONE);
        Check.due("setGate(true)", x.setGate(true), 0);
        x.tick(1);
        Check.due("it begins", x.count(8), 0);
        x.setGate(false);
        x.tick(3);
        Check.due("a car on the ramp drives on", x.count(2), 1);
    }

    private static void crank() {
        FerryRamp x = Check.ramp("deck 5 sink 100;");
        Check.due("crank(3)", x.crank(3), 3);
        Check.due("crank(-20)", x.crank(-20), 17);
        Check.due("crank(20)", x.crank(20), 3);
        Check.due("END", x.count(4), 8);
        Check.due("the winch stays", x.count(5), 0);
        String before = all(x);
        Check.due("crank(0)", x.crank(0), -1);
        Check.throwsArgument("crank(21)", () -> x.crank(21));
        Check.throwsArgument("crank(-21)", () -> x.crank(-21));
        Check.throwsArgument("crank(MIN)", () -> x.crank(Integer.MIN_VALUE));
        Check.dueText("what is refused changes nothing", all(x), before);
        x.arrive(0, 5);
        x.tick(1);
        Check.due("a car on the ramp", x.crank(1), -2);
        Check.due("0 comes ahead of it", x.crank(0), -1);
        Check.due("the account 1", x.account(1), 2);
        Check.due("the account 2", x.account(2), 1);
        FerryRamp deep = new FerryRamp();
        for (int times = 1; times <= 60; times++) {
            Check.due("no bounds", deep.crank(-20), 20 * times);
        }
        Check.due("END far below", deep.count(4), -1200);
    }

    private static void setWinch() {
        FerryRamp x = new FerryRamp();
        Check.due("setWinch(20, 50, 20)", x.setWinch(20, 50, 20), 0);
        Check.due("PULL", x.setting(9), 20);
        Check.due("SLACK", x.setting(10), 50);
        Check.due("WAKE", x.setting(11), 20);
        Check.due("setWinch(1, 0, 0)", x.setWinch(1, 0, 0), 0);
        Check.due("to what they are", x.setWinch(1, 0, 0), 0);
        Check.due("that is an act, too", x.account(0), 3);
        Check.due("PULL", x.setting(9), 1);
        Check.due("SLACK", x.setting(10), 0);
        Check.due("WAKE", x.setting(11), 0);
        String before = all(x);
        Check.throwsArgument("setWinch(0, 0, 0)", () -> x.setWinch(0, 0, 0));
        Check.throwsArgument("setWinch(21, 0, 0)", () -> x.setWinch(21, 0, 0));
        Check.throwsArgument("setWinch(1, -1, 0)", () -> x.setWinch(1, -1, 0));
        Check.throwsArgument("setWinch(1, 51, 0)", () -> x.setWinch(1, 51, 0));
        Check.throwsArgument("setWinch(1, 0, -1)", () -> x.setWinch(1, 0, -1));
        Check.throwsArgument("setWinch(1, 0, 21)", () -> x.setWinch(1, 0, 21));
        Check.dueText("what throws changes nothing", all(x), before);
    }

    private static void setWinchWaking() {
        FerryRamp x = Check.ramp("winch 2 5 9;");
        x.crank(20);
        x.tick(2);
        Check.due("8 ticks left", x.count(6), 8);
        x.setWinch(3, 50, 1);
        Check.due("8 ticks left still", x.count(6), 8);
        x.tick(7);
        Check.due("1 tick left", x.count(6), 1);
        x.tick(1);
        dueWinch("awake", x, 2, 0, 17, 17);
        x.setWinch(20, 50, 5);
        dueWinch("awake still", x, 2, 0, 17, 17);
        x.tick(1);
        dueWinch("the new PULL", x, 0, 0, 0, 0);
    }

    private static void setCross() {
        FerryRamp x = Check.ramp("cross 20 patience 50; car 0 5; car 0 6;");
        x.tick(6);
        Check.due("driven in", x.count(9), 5);
        Check.due("setCross(5, 1)", x.setCross(5, 1), 0);
        Check.due("CROSS", x.setting(12), 5);
        Check.due("PATIENCE", x.setting(13), 1);
        Check.due("it is on the ramp still", x.count(8), 0);
        x.tick(1);
        Check.due("it is on deck in the next tick", x.count(2), 1);
        x.setCross(20, 50);
        x.tick(4);
        x.setCross(1, 50);
        x.tick(1);
        Check.due("it has driven in more", x.count(2), 2);
        FerryRamp y = Check.ramp("quay 200; cross 3 patience 20; car 0 5;");
        y.tick(9);
        y.setCross(3, 4);
        Check.due("WAITING stays", y.count(11), 9);
        Check.due("no call yet", y.count(12), 0);
        y.tick(1);
        Check.due("the call as it grows", y.count(12), 1);
        y.tick(2);
        y.setCross(3, 2);
        y.tick(1);
        Check.due("WAITING was PATIENCE", y.count(12), 2);
        Check.due("to what they are", y.setCross(3, 2), 0);
        Check.due("setCross(20, 50)", y.setCross(20, 50), 0);
        Check.due("setCross(1, 1)", y.setCross(1, 1), 0);
        String before = all(y);
        Check.throwsArgument("setCross(0, 1)", () -> y.setCross(0, 1));
        Check.throwsArgument("setCross(21, 1)", () -> y.setCross(21, 1));
        Check.throwsArgument("setCross(1, 0)", () -> y.setCross(1, 0));
        Check.throwsArgument("setCross(1, 51)", () -> y.setCross(1, 51));
        Check.dueText("what throws changes nothing", all(y), before);
    }
}
