/** The sentences of the promises 24 to 32: what would be. */
final class ForesightSentences extends Sentences {
    static void run() {
        section("Promise 24");
        whyNot();
        section("Promise 25");
        laneFor();
        section("Promise 26");
        startIn();
        section("Promise 27");
        boardIn();
        section("Promise 28");
        wakesIn();
        section("Promise 29");
        easyIn();
        section("Promise 30");
        bestFirst();
        section("Promise 31");
        meanWait();
        section("Promise 32");
        fullness();
    }

    private interface OfCar {
        int of(FerryRamp x, int car);
    }

    /** The call throws for each car that is not in the queue, and for that one alone. */
    private static void inTheQueueAlone(String name, OfCar call) {
        throwsIndex(name + "(0) of no cars", () -> call.of(new FerryRamp(), 0));
        FerryRamp x = played("cross 1 patience 50;" + "car 0 5;".repeat(6),
            "dismiss 2; tick 2; gate closed; tick; unload 1; gate open; tick;");
        int[] where = {2, 3, 4, 1, 0, 0};
        for (int car = 0; car < where.length; car++) {
            int number = car;
            due("where the car " + car + " is", x.car(car, 2), where[car]);
            if (where[car] > 0) {
                throwsIndex(name + "(" + car + ")", () -> call.of(x, number));
            } else {
                call.of(x, car);
            }
        }
        throwsIndex(name + "() of a car that has not arrived", () -> call.of(x, 6));
        for (int car : new int[] {-1, 60, MIN, MAX}) {
            index(name + "(" + car + ")", y -> call.of(y, car));
        }
        index(name + "() of a car on deck", y -> call.of(y, 0));
        FerryRamp fewer = ramp("car 0 5; car 0 5;");
        fewer.dismiss(1);
        throwsIndex(name + "() of the one that was the last one", () -> call.of(fewer, 1));
    }

    private static void whyNot() {
        says("- `car`: a car in the queue");
        FerryRamp x = ramp("quay 9; kind 1 8 9 1; car 0 5; car 1 6; car 0 7;");
        due("the first one", x.whyNot(0), 0);
        due("the second one", x.whyNot(1), 6);
        due("the last one", x.whyNot(2), 0);
        due("the last one of 20", ramp("car 0 5;".repeat(19) + "car 0 6; lanes 9 load 5 list 99;").whyNot(19), 4);

        says("Returns the reason why it could not begin to drive now if it was the first one;");
        due("1", played("car 0 5;", "gate closed;").whyNot(0), 1);
        due("2", played("car 0 5; car 0 5;", "tick;").whyNot(1), 2);
        due("3", ramp("lanes 3 load 9 list 9; car 3 5;").whyNot(0), 3);
        due("4", ramp("lanes 3 load 9 list 9; car 0 10;").whyNot(0), 4);
        FerryRamp leaning = leaning();
        leaning.arrive(0, 39);
        due("5", leaning.whyNot(5), 5);
        due("6", ramp("quay 101; car 0 5;").whyNot(0), 6);
        due("7", played("car 0 5;", "crank 11;").whyNot(0), 7);
        due("now, whatever the next tick brings", ramp("tide 0 99 half 1; kind 0 0 0 1; winch 1 50 0; car 0 5;").whyNot(0), 0);

        says("0 if it could.");
        due("it could", ramp("car 0 5;").whyNot(0), 0);
        due("another one is ahead of it", ramp("car 0 5; car 0 5;").whyNot(1), 0);

        says("Throws `IndexOutOfBoundsException` if there is no such car in the queue");
        inTheQueueAlone("whyNot", FerryRamp::whyNot);
    }

    private static void laneFor() {
        says("- `car`: a car in the queue");
        FerryRamp x = ramp("lanes 9 load 99 list 10; car 0 10; car 0 11; car 0 12;");
        due("the first one", x.laneFor(0), 0);
        due("the second one", x.laneFor(1), 1);
        due("the last one", x.laneFor(2), 1);

        says("Returns the lane for it;");
        due("the lane 0", ramp("car 0 5;").laneFor(0), 0);
        due("the lane 1", played("car 0 5; car 0 5;", "tick;").laneFor(1), 1);
        due("the lane 2", played("cross 1 patience 50; car 0 5; car 0 5; car 0 5;", "tick 2;").laneFor(2), 2);
        due("behind a closed gate", played("car 0 5;", "gate closed;").laneFor(0), 0);
        due("too heavy for LOAD", ramp("lanes 3 load 9 list 99; car 0 10;").laneFor(0), 0);
        due("a slope and a lip too great", played("quay 300; car 0 5;", "crank 20;").laneFor(0), 0);
        FerryRamp begins = played("lanes 9 load 99 list 10; car 0 11;", "");
        int lane = begins.laneFor(0);
        begins.tick(1);
        due("it begins to drive for that lane", begins.car(0, 3), lane);

        says("NONE if none suits.");
        due("too long", ramp("lanes 3 load 9 list 9; car 3 5;").laneFor(0), NONE);
        FerryRamp leaning = leaning();
        leaning.arrive(0, 39);
        due("the weights of the sides", leaning.laneFor(5), NONE);

        says("Throws `IndexOutOfBoundsException` if there is no such car in the queue");
        inTheQueueAlone("laneFor", FerryRamp::laneFor);
    }

    /** END is so much above DECK, comes down by 1 in each tick, and the car asks for no lip at all. */
    private static FerryRamp cranked(int by) {
        FerryRamp x = ramp("winch 1 0 0; kind 0 500 0 1; car 0 1;");
        for (int left = by; left > 0; left -= 20) {
            x.crank(Math.min(20, left));
        }
        return x;
    }

    private static void startIn() {
        says("Returns in how many ticks (1 to 200) the next car begins to drive (also one that the crew lets begin), if only"
            + " ticks pass;");
        due("1", ramp("car 0 5;").startIn(), 1);
        due("the next one, not that on the ramp", played("car 0 5; car 0 5;", "tick;").startIn(), 3);
        due("when that comes on deck", played("car 0 5; car 0 5;", "tick 3;").startIn(), 1);
        due("CROSS 1", played("cross 1 patience 50; car 0 5; car 0 5;", "tick;").startIn(), 1);
        due("199", cranked(199).startIn(), 199);
        due("200", cranked(200).startIn(), 200);
        String crew = "quay 50; kind 0 9 9 1; cross 3 patience 50; car 0 5; car 1 6;";
        due("the crew", ramp(crew).startIn(), 50);
        due("the crew sooner", played(crew, "tick 49;").startIn(), 1);
        FerryRamp x = ramp(crew);
        x.startIn();
        counts("nothing changes", x, 0, 0);
        counts("nothing changes", x, 11, 0);

        says("NONE if none begins in so many.");
        due("an empty queue", new FerryRamp().startIn(), NONE);
        due("the last one is on the ramp", played("car 0 5;", "tick;").startIn(), NONE);
        due("the gate is closed", played("car 0 5;", "gate closed;").startIn(), NONE);
        due("201", cranked(201).startIn(), NONE);
        due("never", ramp("quay 101; car 0 5;").startIn(), NONE);
    }

    private static void boardIn() {
        String three = "car 0 5; car 0 5; car 0 5;";
        says("- `ticks`: 1 to 200");
        due("1", played(three, "tick 3;").boardIn(1), 1);
        due("200", ramp(three).boardIn(200), 3);
        due("the 200th tick", played("cross 20 patience 50;" + "car 0 1;".repeat(11), "tick;").boardIn(200), 10);
        due("the 199th tick", played("cross 20 patience 50;" + "car 0 1;".repeat(11), "tick;").boardIn(199), 9);

        says("Returns how many cars come on deck in so many ticks, if only ticks pass.");
        int[] boarded = {0, 0, 0, 1, 1, 1, 2, 2, 2, 3, 3};
        for (int ticks = 1; ticks <= boarded.length; ticks++) {
            due("boardIn(" + ticks + ")", ramp(three).boardIn(ticks), boarded[ticks - 1]);
        }
        due("those on deck do not count", played(three, "tick 7;").boardIn(9), 1);
        due("the gate is closed", played(three, "tick; gate closed;").boardIn(50), 1);
        FerryRamp x = ramp(three);
        x.boardIn(50);
        counts("nothing changes", x, 13, 0);

        says("Throws `IllegalArgumentException` if ticks is out of range");
        for (int ticks : new int[] {0, 201, -1, MIN, MAX}) {
            argument("boardIn(" + ticks + ")", y -> y.boardIn(ticks));
        }
    }

    /** The tenth car comes on deck at 201, so that the winch wakes at 202. */
    private static FerryRamp lateLoad() {
        return ramp("deck 300 sink 1; lanes 30 load 9999 list 9999; winch 1 50 20; cross 20 patience 50; kind 0 500 99 1;"
            + "car 0 5;".repeat(9) + "car 0 15;");
    }

    private static void wakesIn() {
        says("Returns in how many ticks (0 to 200) the winch is not asleep, if only ticks pass (0: now);");
        due("waking now", played("winch 1 3 2;", "crank 4; tick;").wakesIn(), 0);
        due("awake now", played("winch 1 3 2;", "crank 4; tick 3;").wakesIn(), 0);
        due("1", played("winch 1 3 2;", "crank 4;").wakesIn(), 1);
        due("1, WAKE 0", played("winch 1 3 0;", "crank 4;").wakesIn(), 1);
        due("the tide", ramp("tide 0 50 half 50;").wakesIn(), 6);
        FerryRamp x = ramp("tide 0 50 half 50;");
        x.wakesIn();
        counts("nothing changes", x, 5, 0);
        FerryRamp late = lateLoad();
        late.tick(2);
        due("200", late.wakesIn(), 200);
        late.tick(1);
        due("199", late.wakesIn(), 199);

        says("NONE if it is asleep behind all of them.");
        due("never", new FerryRamp().wakesIn(), NONE);
        due("a lip of SLACK", played("winch 1 3 2;", "crank 3;").wakesIn(), NONE);
        FerryRamp later = lateLoad();
        later.tick(1);
        due("201", later.wakesIn(), NONE);
        due("it sleeps again behind each tick", ramp("tide 0 50 half 50; winch 20 0 0;").wakesIn(), NONE);
    }

    private static void easyIn() {
        FerryRamp x = ramp("tide 0 40 half 20; quay 20; kind 0 4 10 1; kind 1 500 0 1; kind 2 20 99 1; kind 3 0 99 1; winch 2 0 0;");
        says("- `kind`: a kind");
        int[] easy = {8, 0, 0, 10};
        for (int kind = 0; kind < 4; kind++) {
            due("easyIn(" + kind + ")", x.easyIn(kind), easy[kind]);
        }

        says("Returns in how many ticks (0 to 200) the slope and the lip are not too great for this kind, if only ticks pass (0: now);");
        due("a slope of STEEP now", ramp("quay 5; kind 0 5 0 1;").easyIn(0), 0);
        due("a slope of STEEP and 1: later", ramp("tide 0 9 half 9; winch 1 0 0; quay 5; kind 0 4 0 1;").easyIn(0), 1);
        due("a lip of LIP now", played("winch 1 0 0; kind 0 500 5 1;", "crank 5;").easyIn(0), 0);
        due("a lip of LIP and 1: later", played("winch 1 0 0; kind 0 500 5 1;", "crank 6;").easyIn(0), 1);
        due("both", played("tide 0 0 half 1; quay 3; winch 1 0 0; kind 0 0 9 1;", "crank 20;").easyIn(0), 17);
        due("199", cranked(199).easyIn(0), 199);
        due("200", cranked(200).easyIn(0), 200);
        due("a closed gate does not matter", played("", "gate closed;").easyIn(0), 0);
        due("a car that comes on deck", played("deck 9 sink 1; winch 1 50 0; kind 1 500 3 1; kind 0 500 99 1; car 0 7;",
            "crank -9;").easyIn(1), 4);

        says("NONE if they are too great behind all of them.");
        due("201", cranked(201).easyIn(0), NONE);
        due("the slope, never", ramp("quay 200; kind 1 199 99 1;").easyIn(1), NONE);
        due("the lip, never", played("winch 1 50 0; kind 1 500 4 1;", "crank 5;").easyIn(1), NONE);

        says("Throws `IndexOutOfBoundsException` if there is no such kind");
        for (int kind : new int[] {-1, 4, MIN, MAX}) {
            index("easyIn(" + kind + ")", y -> y.easyIn(kind));
        }
    }

    private static void bestFirst() {
        String steep = "quay 50; kind 0 5 5 1; cross 2 patience 20; car 0 5; car 0 6; car 1 7; car 1 8; car 0 9;";
        says("- `ticks`: 1 to 99");
        due("1", played("cross 1 patience 50; car 0 5; car 0 5; car 0 5;", "tick;").bestFirst(1), 1);
        due("99", ramp(steep).bestFirst(99), 0);
        due("it comes on deck in the 99th tick", sinking(97).bestFirst(99), 1);
        due("it comes on deck in the 100th tick", sinking(98).bestFirst(99), 0);

        says("Returns the car of the queue that should be waved to its front, so that most cars come on deck in so many ticks, if"
            + " only ticks pass behind that;");
        due("one more comes on deck", ramp(steep).bestFirst(3), 2);
        due("the crew lets another one begin", ramp(steep).bestFirst(24), 2);
        FerryRamp heavy = ramp("lanes 10 load 100 list 999; cross 1 patience 1; car 0 90; car 0 50; car 0 40;");
        due("two light ones instead of a heavy one", heavy.bestFirst(3), 1);
        due("the last one", ramp("lanes 10 load 100 list 999; car 0 101; car 0 101; car 0 100;").bestFirst(4), 2);
        due("the last one of 20", ramp("lanes 10 load 100 list 999;" + "car 0 101;".repeat(19) + "car 0 100;").bestFirst(4), 19);
        heavy.bestFirst(3);
        due("nothing changes", heavy.queued(0), 0);

        says("of several the first one of the queue;");
        due("none comes on deck", ramp(steep).bestFirst(2), 0);
        due("each comes on deck", ramp("car 0 5; car 0 6;").bestFirst(50), 0);
        due("the first one of the queue is not the lowest", played("car 0 5; car 0 6;", "wave 1;").bestFirst(50), 1);
        due("of those that are best", played(steep, "wave 3; wave 0;").bestFirst(3), 3);

        says("NONE if the queue is empty.");
        due("a new object", new FerryRamp().bestFirst(99), NONE);
        due("the last one is on the ramp", played("car 0 5;", "tick;").bestFirst(9), NONE);

        says("Throws `IllegalArgumentException` if ticks is out of range");
        for (int ticks : new int[] {0, 100, -1, MIN, MAX}) {
            argument("bestFirst(" + ticks + ")", x -> x.bestFirst(ticks));
        }
        throwsArgument("bestFirst(0) of an empty queue", () -> new FerryRamp().bestFirst(0));
        throwsArgument("bestFirst(100) of an empty queue", () -> new FerryRamp().bestFirst(100));
    }

    /** The car 1 can begin when END has come down by so much, the car 0 never can. */
    private static FerryRamp sinking(int by) {
        FerryRamp x = ramp("winch 1 0 0; cross 2 patience 50; kind 0 0 99 9; lanes 8 load 99 list 99; kind 1 500 0 1; car 0 5; car 1 5;");
        for (int left = by; left > 0; left -= 20) {
            x.crank(Math.min(20, left));
        }
        return x;
    }

    private static void meanWait() {
        says("Returns the mean time that cars waited until they began to drive, of all that did:");
        due("one", played("car 0 5;", "tick;").meanWait(), 1.0);
        due("three", played("car 0 5; car 0 5; car 0 5;", "tick 7;").meanWait(), 4.0);
        due("those in the queue do not count", played("car 0 5; car 0 5; car 0 5;", "tick 6;").meanWait(), 2.5);
        due("since they arrived", played("", "tick 9; car 0 5; tick;").meanWait(), 1.0);
        due("dismissed ones do not count", played("car 0 5; car 0 5;", "tick 3; dismiss 1; tick 9;").meanWait(), 1.0);
        due("unloaded ones count", played("car 0 5; car 0 5;", "tick 7; unload 0;").meanWait(), 2.5);
        due("for long", played("car 0 5;", "gate closed; tick 50; tick 50; tick 50; gate open; tick;").meanWait(), 151.0);

        says("the sum divided by their number, both converted to double;");
        String three = "cross 1 patience 50; car 0 1; car 0 1; car 0 1;";
        due("8 / 3", played(three, "tick; gate closed; tick; gate open; tick 2;").meanWait(), 8.0 / 3.0);
        due("10 / 3", played(three, "tick; gate closed; tick 2; gate open; tick 2;").meanWait(), 10.0 / 3.0);
        due("3 / 2", played(three, "tick 2;").meanWait(), 1.5);

        says("0.0 if none did.");
        due("a new object", new FerryRamp().meanWait(), 0.0);
        due("they wait", played("quay 300; car 0 5;", "tick 50;").meanWait(), 0.0);
    }

    private static void fullness() {
        says("Returns the load divided by LOAD, both converted to float.");
        String setup = "lanes 10 load 700 list 999; cross 1 patience 50; car 0 100; car 0 600;";
        due("0", ramp(setup).fullness(), 0.0);
        due("on the ramp", played(setup, "tick;").fullness(), 0.0);
        due("1 / 7", played(setup, "tick 2;").fullness(), 100f / 700f);
        due("1", played(setup, "tick 3;").fullness(), 1.0);
        due("6 / 7", played(setup, "tick 3; unload 0;").fullness(), 600f / 700f);
        due("1 / 3", played("lanes 10 load 3 list 9; car 0 1;", "tick 4;").fullness(), 1f / 3f);
        due("1 / 9999", played("lanes 10 load 9999 list 9; car 0 1;", "tick 4;").fullness(), 1f / 9999f);
        due("LOAD 1", played("lanes 1 load 1 list 1; car 0 1;", "tick 4;").fullness(), 1.0);
    }
}
