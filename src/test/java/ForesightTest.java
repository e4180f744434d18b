/** Promises 24 to 32: what would be. Each look must leave everything as it is. */
public final class ForesightTest {
    private static final int NONE = FerryRamp.NONE;

    public static void main(String[] args) {
        whyNot();
        whyNotOrder();
        whyNotSuits();
        laneFor();
        startIn();
        boardIn();
        wakesIn();
        easyIn();
        bestFirst();
        meanWait();
        fullness();
        nothingChanges();
        Check.end();
    }

    private static void whyNot() {
        FerryRamp x = Check.ramp("kind 0 10 5 2; lanes 6 load 100 list 50; quay 10; car 0 50; car 0 51; car 1 101;");
        Check.due("at the bounds: 0", x.whyNot(0), 0);
        Check.due("a list of 51: only the lane 1", x.whyNot(1), 0);
        Check.due("a load of 101", x.whyNot(2), 4);
        x.crank(-1);
        Check.due("a slope of 11", x.whyNot(0), 6);
        x.crank(6);
        Check.due("a lip of 5", x.whyNot(0), 0);
        x.crank(1);
        Check.due("a lip of 6", x.whyNot(0), 7);
        x.setGate(false);
        Check.due("the gate is closed", x.whyNot(0), 1);
        x.setGate(true);
        x.crank(-6);
        x.tick(1);
        Check.throwsIndex("a car on the ramp", () -> x.whyNot(0));
        Check.due("a car is on the ramp", x.whyNot(1), 2);
        x.setGate(false);
        Check.due("the gate comes first", x.whyNot(2), 1);
        Check.throwsIndex("whyNot(3)", () -> x.whyNot(3));
        Check.throwsIndex("whyNot(-1)", () -> x.whyNot(-1));
        Check.throwsIndex("whyNot(MAX)", () -> x.whyNot(Integer.MAX_VALUE));
        x.dismiss(2);
        Check.throwsIndex("a car that was dismissed", () -> x.whyNot(2));
        x.tick(3);
        Check.throwsIndex("a car on deck", () -> x.whyNot(0));
    }

    private static void whyNotOrder() {
        FerryRamp x = Check.ramp("kind 0 10 5 9; kind 1 10 5 8; lanes 8 load 99 list 98; car 0 100; car 1 100; car 1 99;"
            + "car 1 98; quay 20;");
        x.crank(-6);
        Check.due("no lane is long enough, and all else", x.whyNot(0), 3);
        Check.due("the load, and the slope and the lip", x.whyNot(1), 4);
        Check.due("99 weigh too much for the sides, not for the lane 1", x.whyNot(2), 6);
        x.crank(16);
        Check.due("the lip alone", x.whyNot(3), 7);
        x.crank(-10);
        Check.due("the lip is right", x.whyNot(3), 6);
        FerryRamp ramp = Check.ramp("lanes 1 load 10 list 10; car 0 5; car 3 5;");
        ramp.tick(1);
        Check.due("the ramp ahead of the lanes", ramp.whyNot(1), 2);
        ramp.tick(3);
        Check.due("then the lanes", ramp.whyNot(1), 3);
        Check.due("what is taken of all lanes", shortOf(3), 3);
        Check.due("what is free of the lane 0", shortOf(0), 0);
        Check.due("what is free of the lane 1", shortOf(1), 0);
        Check.due("what is free of the lane 2", shortOf(2), 0);
        Check.due("the load counts what is on deck", loadedBy(60, 41), 4);
        Check.due("up to LOAD", loadedBy(60, 40), 0);
    }

    /** Each lane has 2 free, but for this one, which has 3; asked is a car of the LENGTH 3. */
    private static int shortOf(int lane) {
        FerryRamp x = Check.ramp("lanes 5 load 1000 list 1000; cross 1 patience 5; car " + (lane == 0 ? 1 : 2) + " 10; car "
            + (lane == 1 ? 1 : 2) + " 10; car " + (lane == 2 ? 1 : 2) + " 10; car 2 1;");
        x.tick(3);
        x.setGate(false);
        x.tick(1);
        x.setGate(true);
        return x.whyNot(3);
    }

    private static int loadedBy(int there, int next) {
        FerryRamp x = Check.ramp("lanes 9 load 100 list 9999;");
        x.arrive(0, there);
        x.tick(4);
        x.arrive(0, next);
        return x.whyNot(1);
    }

    /** The lanes 0, 1 and 2 weigh 40, 100 and 120, and the sides may be 40 apart. */
    private static FerryRamp leaning() {
        FerryRamp x = Check.ramp("deck 0 sink 999; lanes 30 load 9999 list 40; cross 1 patience 50; car 0 100; car 0 40;"
            + "car 0 40; car 0 40; car 0 80;");
        x.tick(6);
        Check.due("unload(0)", x.unload(0), 3);
        Check.due("the lane 0", x.lane(0, false), 40);
        Check.due("the lane 1", x.lane(1, false), 100);
        Check.due("the lane 2", x.lane(2, false), 120);
        return x;
    }

    private static void whyNotSuits() {
        FerryRamp x = leaning();
        x.arrive(0, 39);
        x.arrive(0, 40);
        x.arrive(0, 120);
        x.arrive(0, 121);
        Check.due("39: not even the lane 1 suits", x.whyNot(5), 5);
        Check.due("39: no lane", x.laneFor(5), NONE);
        Check.due("40: the lane 0 suits", x.whyNot(6), 0);
        Check.due("40: the lane 0", x.laneFor(6), 0);
        Check.due("120: the lane 0", x.laneFor(7), 0);
        Check.due("121: no lane", x.laneFor(8), NONE);
        x.crank(20);
        Check.due("what suits comes ahead of the lip", x.whyNot(5), 5);
    }

    private static void laneFor() {
        FerryRamp x = Check.ramp("lanes 10 load 1000 list 40; cross 1 patience 5; car 0 41; car 0 30; car 3 45; car 3 41;"
            + "car 3 5;");
        Check.due("too heavy for the sides", x.laneFor(0), 1);
        Check.due("the lowest of several", x.laneFor(1), 0);
        x.tick(1);
        Check.due("it counts the car on the ramp", x.laneFor(1), 0);
        x.tick(1);
        Check.due("the least weight", x.laneFor(2), 2);
        Check.throwsIndex("laneFor() of a car on the ramp", () -> x.laneFor(1));
        Check.throwsIndex("laneFor() of a car on deck", () -> x.laneFor(0));
        Check.throwsIndex("laneFor(5)", () -> x.laneFor(5));
        Check.throwsIndex("laneFor(-1)", () -> x.laneFor(-1));
        x.setGate(false);
        x.crank(1);
        Check.due("the gate does not matter", x.laneFor(3), 2);
        FerryRamp ramp = Check.ramp("car 0 10; car 0 20; lanes 4 load 1000 list 1000; kind 1 0 0 4;");
        ramp.tick(1);
        Check.due("the lane of the ramp has weight", ramp.laneFor(1), 1);
        ramp.arrive(1, 5);
        Check.due("and is not free", ramp.laneFor(2), 1);
        FerryRamp free = Check.ramp("cross 1 patience 5; lanes 4 load 1000 list 1000; car 3 5; car 0 50; car 0 60; car 1 1;");
        free.tick(4);
        Check.due("a lane with nothing free does not suit", free.car(3, 3), 1);
    }

    private static void startIn() {
        Check.due("startIn() of none", new FerryRamp().startIn(), NONE);
        FerryRamp x = Check.ramp("car 0 5; car 0 5;");
        Check.due("startIn()", x.startIn(), 1);
        x.tick(1);
        Check.due("startIn() of the next one", x.startIn(), 3);
        x.tick(2);
        Check.due("startIn() in the tick in which it comes on deck", x.startIn(), 1);
        x.tick(1);
        Check.due("startIn() with the last one on the ramp", x.startIn(), NONE);
        FerryRamp crew = Check.ramp("quay 10; kind 0 5 5 1; cross 3 patience 50; car 0 5; car 1 5;");
        Check.due("startIn() by the crew", crew.startIn(), 50);
        crew.setGate(false);
        Check.due("startIn() with the gate closed", crew.startIn(), NONE);
        FerryRamp high = Check.ramp("tide 0 99 half 99; quay 99; winch 20 0 0; kind 0 0 0 1; car 0 1;");
        Check.due("startIn() at high water", high.startIn(), 99);
        Check.due("startIn() of 200", cranked(200).startIn(), 200);
        Check.due("startIn() of 201", cranked(201).startIn(), NONE);
    }

    /** END is so much above DECK, comes down by 1 in each tick, and the car asks for no lip at all. */
    private static FerryRamp cranked(int by) {
        FerryRamp x = Check.ramp("winch 1 0 0; kind 0 500 0 1; car 0 1;");
        for (int left = by; left > 0; left -= 20) {
            x.crank(Math.min(20, left));
        }
        return x;
    }

    private static void boardIn() {
        FerryRamp x = Check.ramp("car 0 5; car 0 5; car 0 5;");
        Check.due("boardIn(1)", x.boardIn(1), 0);
        Check.due("boardIn(3)", x.boardIn(3), 0);
        Check.due("boardIn(4)", x.boardIn(4), 1);
        Check.due("boardIn(6)", x.boardIn(6), 1);
        Check.due("boardIn(7)", x.boardIn(7), 2);
        Check.due("boardIn(10)", x.boardIn(10), 3);
        Check.due("boardIn(200)", x.boardIn(200), 3);
        x.tick(7);
        Check.due("boardIn() counts the next ones alone", x.boardIn(3), 1);
        for (int ticks : new int[] {0, 201, -1, Integer.MAX_VALUE, Integer.MIN_VALUE}) {
            Check.throwsArgument("boardIn(" + ticks + ")", () -> x.boardIn(ticks));
        }
    }

    private static void wakesIn() {
        Check.due("wakesIn() of a flat tide", new FerryRamp().wakesIn(), NONE);
        FerryRamp x = Check.ramp("tide 0 50 half 50;");
        Check.due("wakesIn()", x.wakesIn(), 6);
        x.tick(5);
        Check.due("wakesIn() the next tick", x.wakesIn(), 1);
        x.tick(1);
        Check.due("wakesIn() now", x.wakesIn(), 0);
        x.tick(2);
        Check.due("wakesIn() when awake", x.wakesIn(), 0);
        FerryRamp nap = Check.ramp("tide 0 50 half 50; winch 20 5 0;");
        Check.due("a winch that sleeps again in the same tick", nap.wakesIn(), NONE);
        FerryRamp late = lateLoad();
        late.tick(1);
        Check.due("wakesIn() of 201", late.wakesIn(), NONE);
        late.tick(1);
        Check.due("wakesIn() of 200", late.wakesIn(), 200);
        late.tick(1);
        Check.due("wakesIn() of 199", late.wakesIn(), 199);
    }

    /** The tenth car comes on deck at the time 201, and makes the lip greater than SLACK. */
    private static FerryRamp lateLoad() {
        return Check.ramp("deck 300 sink 1; lanes 30 load 9999 list 9999; winch 1 50 20; cross 20 patience 50;"
            + "kind 0 500 99 1; car 0 5; car 0 5; car 0 5; car 0 5; car 0 5; car 0 5; car 0 5; car 0 5; car 0 5; car 0 15;");
    }

    private static void easyIn() {
        FerryRamp x = Check.ramp("tide 0 40 half 20; quay 20; kind 0 4 10 1; kind 1 500 0 1; kind 2 20 99 1; kind 3 0 99 1;"
            + "winch 2 0 0;");
        Check.due("easyIn(2) now", x.easyIn(2), 0);
        Check.due("easyIn(0)", x.easyIn(0), 8);
        Check.due("easyIn(1) now", x.easyIn(1), 0);
        Check.due("easyIn(3)", x.easyIn(3), 10);
        x.crank(20);
        Check.due("easyIn(3): the slope is right", x.easyIn(3), 0);
        Check.due("easyIn(0): the lip is not, then the slope is not", x.easyIn(0), 8);
        FerryRamp flat = Check.ramp("quay 200; kind 1 199 0 1;");
        Check.due("easyIn(1) never", flat.easyIn(1), NONE);
        Check.due("easyIn() of 200", cranked(200).easyIn(0), 200);
        Check.due("easyIn() of 201", cranked(201).easyIn(0), NONE);
        Check.throwsIndex("easyIn(4)", () -> x.easyIn(4));
        Check.throwsIndex("easyIn(-1)", () -> x.easyIn(-1));
        Check.throwsIndex("easyIn(MAX)", () -> x.easyIn(Integer.MAX_VALUE));
    }

    private static void bestFirst() {
        FerryRamp x = Check.ramp("quay 50; kind 0 5 5 1; cross 2 patience 20; car 0 5; car 0 6; car 1 7; car 1 8; car 0 9;");
        Check.due("bestFirst(2): none comes on deck", x.bestFirst(2), 0);
        Check.due("bestFirst(3): the first that can", x.bestFirst(3), 2);
        Check.due("bestFirst(24): the crew lets the next one drive", x.bestFirst(24), 2);
        Check.due("bestFirst(99): the crew comes in any case", x.bestFirst(99), 0);
        Check.due("bestFirst() of none", new FerryRamp().bestFirst(99), NONE);
        FerryRamp even = Check.ramp("car 0 5; car 0 6;");
        Check.due("of several the first one of the queue", even.bestFirst(50), 0);
        even.wave(1);
        Check.due("which is not the lowest", even.bestFirst(50), 1);
        FerryRamp heavy = Check.ramp("lanes 10 load 100 list 999; cross 1 patience 1; car 0 90; car 0 50; car 0 40;");
        Check.due("two light ones behind one another", heavy.bestFirst(3), 1);
        Check.due("none in one tick", heavy.bestFirst(1), 0);
        for (int ticks : new int[] {0, 100, -1, Integer.MAX_VALUE, Integer.MIN_VALUE}) {
            Check.throwsArgument("bestFirst(" + ticks + ")", () -> x.bestFirst(ticks));
        }
        Check.throwsArgument("bestFirst(0) of none", () -> new FerryRamp().bestFirst(0));
    }

    private static void meanWait() {
        FerryRamp x = new FerryRamp();
        Check.due("meanWait() of none", x.meanWait(), 0.0);
        x.tick(3);
        x.arrive(0, 5);
        x.arrive(0, 5);
        x.arrive(0, 5);
        Check.due("meanWait() of those that wait", x.meanWait(), 0.0);
        x.tick(1);
        Check.due("meanWait() of one", x.meanWait(), 1.0);
        x.tick(6);
        Check.due("meanWait() of three", x.meanWait(), (1 + 4 + 7) / 3.0);
        x.tick(4);
        x.arrive(0, 5);
        x.tick(2);
        Check.due("meanWait() of four", x.meanWait(), 13 / 4.0);
        x.unload(1);
        x.arrive(0, 7);
        x.dismiss(4);
        Check.due("one that was dismissed does not count", x.meanWait(), 13 / 4.0);
        FerryRamp third = Check.ramp("cross 1 patience 5; car 0 1; car 0 1; car 0 1;");
        third.tick(1);
        third.setGate(false);
        third.tick(1);
        third.setGate(true);
        third.tick(2);
        Check.due("a mean that is no whole number", third.meanWait(), 8 / 3.0);
    }

    private static void fullness() {
        FerryRamp x = Check.ramp("lanes 10 load 700 list 900; cross 1 patience 5; car 0 100; car 0 600;");
        Check.due("fullness() of nothing", x.fullness(), 0.0);
        x.tick(1);
        Check.due("the car on the ramp does not count", x.fullness(), 0.0);
        x.tick(1);
        Check.due("fullness() of 100", x.fullness(), 100f / 700f);
        x.tick(1);
        Check.due("fullness() of all", x.fullness(), 1.0);
        x.unload(0);
        Check.due("fullness() of 600", x.fullness(), 600f / 700f);
        FerryRamp one = Check.ramp("lanes 1 load 1 list 1; cross 1 patience 5; car 0 1;");
        one.tick(2);
        Check.due("fullness() of a LOAD of 1", one.fullness(), 1.0);
    }

    private static void nothingChanges() {
        FerryRamp x = Check.ramp("tide 0 40 half 9; kind 0 20 3 1; quay 20; cross 2 patience 2; car 0 50; car 1 60; car 2 70;");
        x.tick(5);
        String before = everything(x);
        x.startIn();
        x.boardIn(200);
        x.wakesIn();
        x.easyIn(0);
        x.bestFirst(99);
        x.meanWait();
        x.fullness();
        x.whyNot(x.queued(0));
        x.laneFor(x.queued(0));
        Check.dueText("everything behind the looks", everything(x), before);
    }

    private static String everything(FerryRamp x) {
        StringBuilder all = new StringBuilder();
        for (int what = 0; what < 18; what++) {
            all.append(x.count(what)).append(' ');
        }
        for (int car = 0; car < x.count(3); car++) {
            for (int what = 0; what < 7; what++) {
                all.append(x.car(car, what)).append(' ');
            }
        }
        return all.append(x.account(0)).append(' ').append(x.account(1)).append(' ').append(x.lip()).toString();
    }
}
