/** The sentences of the promises 33 to 41: acts. */
final class ActSentences extends Sentences {
    private static final String TWO = "car 0 5; car 1 6;";

    static void run() {
        section("Promise 33");
        tick();
        section("Promise 34");
        arrive();
        section("Promise 35");
        wave();
        section("Promise 36");
        dismiss();
        section("Promise 37");
        unload();
        unloadReasons();
        section("Promise 38");
        setGate();
        section("Promise 39");
        crank();
        section("Promise 40");
        setWinch();
        section("Promise 41");
        setCross();
        setCrossDriven();
    }

    private static void tick() {
        says("Ticks pass.");
        for (int many : new int[] {1, 2, 49, 50}) {
            FerryRamp x = new FerryRamp();
            x.tick(many);
            counts("tick(" + many + ")", x, 0, many);
            counts("tick(" + many + ") is one act", x, 17, 1);
        }
        FerryRamp once = Look.busy();
        FerryRamp apart = Look.busy();
        once.tick(50);
        for (int tick = 0; tick < 50; tick++) {
            apart.tick(1);
        }
        same("50 ticks at once or apart", Look.state(once), Look.state(apart));

        says("- `many`: 1 to 50");
        due("1", ramp(TWO).tick(1), 0);
        due("50", ramp(TWO).tick(50), 2);

        says("Returns how many cars came on deck in them.");
        FerryRamp x = ramp(TWO);
        int[] ticks = {3, 1, 2, 1, 50};
        int[] want = {0, 1, 0, 1, 0};
        for (int index = 0; index < ticks.length; index++) {
            due("tick(" + ticks[index] + ") at " + x.count(0), x.tick(ticks[index]), want[index]);
        }
        FerryRamp crowd = played("cross 1 patience 50; lanes 30 load 999 list 999;" + "car 0 1;".repeat(20), "tick;");
        due("one in each tick", crowd.tick(19), 19);
        due("and the last one", crowd.tick(50), 1);

        says("Throws `IllegalArgumentException` if many is out of range");
        for (int many : new int[] {0, 51, -1, MIN, MAX}) {
            argument("tick(" + many + ")", y -> y.tick(many));
        }
    }

    private static void arrive() {
        says("A car arrives, at the end of the queue.");
        FerryRamp x = played(TWO, "wave 1; car 2 7;");
        due("the end", x.queued(2), 2);
        due("the first one stays", x.queued(0), 1);
        due("where it is", x.car(2, 2), 0);
        x.dismiss(0);
        x.arrive(0, 8);
        due("the end again", x.queued(2), 3);
        due("at its TIME", played("", "tick 7; car 0 5;").car(0, 4), 7);
        FerryRamp stale = played("", "car 3 9; tick 3;");
        stale.undo();
        stale.undo();
        stale.tick(2);
        due("the number of one that was undone", stale.arrive(1, 4), 0);
        int[] facts = {1, 4, 0, NONE, 2, NONE, NONE};
        for (int what = 0; what < facts.length; what++) {
            due("car(0, " + what + ")", stale.car(0, what), facts[what]);
        }

        says("- `kind`: its kind");
        for (int kind = 0; kind < 4; kind++) {
            FerryRamp y = new FerryRamp();
            y.arrive(kind, 5);
            due("the kind " + kind, y.car(0, 0), kind);
        }
        says("- `weight`: its weight");
        for (int weight : new int[] {1, 2, 998, 999}) {
            FerryRamp y = new FerryRamp();
            y.arrive(0, weight);
            due("the weight " + weight, y.car(0, 1), weight);
        }

        says("Returns its number; or minus the reason:");
        FerryRamp many = new FerryRamp();
        for (int car = 0; car < 60; car++) {
            due("its number", many.arrive(0, 1), car);
            if (car < 40) {
                many.dismiss(car);
            }
        }
        due("minus the reason", many.arrive(0, 1), -1);

        says("1 there are 60 cars;");
        many.dismiss(59);
        due("60 cars so far, 19 wait", many.arrive(0, 1), -1);
        many.undo();
        many.undo();
        due("59 cars", many.arrive(0, 1), 59);
        due("60 cars ahead of 20 that wait", many.arrive(0, 1), -1);

        says("2 the queue has 20.");
        FerryRamp queue = ramp("car 0 1;".repeat(19));
        due("19", queue.arrive(0, 1), 19);
        due("20", queue.arrive(0, 1), -2);
        queue.dismiss(7);
        due("19 again", queue.arrive(0, 1), 20);
        due("20 again", queue.arrive(0, 1), -2);
        due("its account", queue.account(2), 2);

        says("Throws `IndexOutOfBoundsException` if there is no such kind");
        for (int kind : new int[] {-1, 4, MIN, MAX}) {
            index("arrive(" + kind + ", 1)", y -> y.arrive(kind, 1));
            index("arrive(" + kind + ", 0)", y -> y.arrive(kind, 0));
        }
        says("Throws `IllegalArgumentException` if weight is not 1 to 999");
        for (int weight : new int[] {0, 1000, -1, MIN, MAX}) {
            argument("arrive(0, " + weight + ")", y -> y.arrive(0, weight));
            argument("arrive(3, " + weight + ")", y -> y.arrive(3, weight));
        }
    }

    private static void dueQueue(FerryRamp x, int... want) {
        for (int index = 0; index < want.length; index++) {
            due("queued(" + index + ")", x.queued(index), want[index]);
        }
        due("behind them", x.queued(want.length), NONE);
    }

    private static void wave() {
        String four = "car 0 1; car 0 2; car 0 3; car 0 4;";
        says("Waves a car to the front of the queue.");
        dueQueue(played(four, "wave 1;"), 1, 0, 2, 3);
        dueQueue(played(four, "wave 2;"), 2, 0, 1, 3);
        dueQueue(played(four, "wave 3;"), 3, 0, 1, 2);
        dueQueue(played(four, "wave 3; wave 2;"), 2, 3, 0, 1);
        FerryRamp last = ramp("car 0 1;".repeat(20));
        due("the last one of 20", last.wave(19), 19);
        due("it is the first one", last.queued(0), 19);
        due("the last one then", last.queued(19), 18);

        says("- `car`: a car, 0 to 59");
        due("car 0", played(four, "wave 2;").wave(0), 1);
        FerryRamp sixty = new FerryRamp();
        for (int car = 0; car < 60; car++) {
            sixty.arrive(0, 1);
            if (car < 58) {
                sixty.dismiss(car);
            }
        }
        due("car 59", sixty.wave(59), 1);
        due("a car that never was", ramp(four).wave(59), -1);

        says("Returns the place in the queue that it had; or minus the reason:");
        for (int car = 1; car < 4; car++) {
            due("wave(" + car + ")", ramp(four).wave(car), car);
        }
        due("a place that is not its number", played(four, "wave 3;").wave(1), 2);
        due("the second place", played(four, "wave 3;").wave(0), 1);
        due("minus the reason", ramp(four).wave(0), -2);

        says("1 it is not in the queue;");
        due("it has not arrived", ramp(four).wave(4), -1);
        due("on the ramp", played(four, "tick;").wave(0), -1);
        due("on deck", played(four, "tick 4;").wave(0), -1);
        due("unloaded", played(four, "tick; gate closed; tick 3; unload 0;").wave(0), -1);
        due("dismissed", played(four, "dismiss 2;").wave(2), -1);
        due("an empty queue", new FerryRamp().wave(0), -1);

        says("2 it is the first one already.");
        due("car 0", ramp(four).wave(0), -2);
        due("car 3", played(four, "wave 3;").wave(3), -2);
        due("the only one", ramp("car 0 5;").wave(0), -2);
        due("the next one behind the one that began", played(four, "tick;").wave(1), -2);

        says("Throws `IndexOutOfBoundsException` if car is out of range");
        for (int car : new int[] {-1, 60, MIN, MAX}) {
            index("wave(" + car + ")", x -> x.wave(car));
        }
    }

    private static void dismiss() {
        String four = "car 0 1; car 0 2; car 0 3; car 0 4;";
        says("Dismisses a car: it leaves the queue for good.");
        dueQueue(played(four, "dismiss 0;"), 1, 2, 3);
        dueQueue(played(four, "dismiss 2;"), 0, 1, 3);
        dueQueue(played(four, "dismiss 3;"), 0, 1, 2);
        FerryRamp x = played(four, "dismiss 2; tick 50;");
        due("for good", x.car(2, 2), 4);
        counts("the others came on deck", x, 13, 3);
        due("the next car has a number of its own", x.arrive(0, 5), 4);

        says("- `car`: a car, 0 to 59");
        due("car 0", ramp(four).dismiss(0), 3);
        FerryRamp sixty = new FerryRamp();
        for (int car = 0; car < 60; car++) {
            sixty.arrive(0, 1);
            due("dismiss(" + car + ")", sixty.dismiss(car), 0);
        }
        due("a car that never was", ramp(four).dismiss(59), -1);

        says("Returns how many cars are in the queue then; or minus the reason:");
        FerryRamp down = ramp("car 0 1;".repeat(20));
        for (int car = 0; car < 20; car++) {
            due("dismiss(" + car + ")", down.dismiss(car), 19 - car);
        }
        due("minus the reason", down.dismiss(0), -1);

        says("1 it is not in the queue.");
        due("it has not arrived", ramp(four).dismiss(4), -1);
        due("on the ramp", played(four, "tick;").dismiss(0), -1);
        due("on deck", played(four, "tick 4;").dismiss(0), -1);
        due("unloaded", played(four, "tick; gate closed; tick 3; unload 0;").dismiss(0), -1);
        due("dismissed", played(four, "dismiss 2;").dismiss(2), -1);
        due("an empty queue", new FerryRamp().dismiss(0), -1);

        says("Throws `IndexOutOfBoundsException` if car is out of range");
        for (int car : new int[] {-1, 60, MIN, MAX}) {
            index("dismiss(" + car + ")", y -> y.dismiss(car));
        }
    }

    private static void unload() {
        String three = "lanes 9 load 99 list 0; cross 1 patience 50; car 0 5; car 1 6; car 0 7;";
        says("Unloads the last car of a lane at once.");
        FerryRamp x = played(three, "tick 4;");
        due("the last one", x.unload(1), 2);
        counts("at once", x, 2, 2);
        counts("the load", x, 7, 11);
        counts("no tick passes", x, 0, 4);
        due("the weight", x.lane(1, false), 11);
        due("what is free", x.lane(1, true), 6);
        due("where it is", x.car(2, 2), 3);
        due("where it stood", x.standing(1, 2), NONE);
        due("those ahead of it stay", x.standing(1, 1), 1);
        due("the next one", x.unload(1), 1);
        due("the first one", x.unload(1), 0);
        due("all is free", x.lane(1, true), 9);
        due("nothing weighs", x.lane(1, false), 0);
        FerryRamp rises = played("deck 9 sink 2; winch 1 50 0; car 0 7;", "tick 4;");
        due("the lip", rises.lip(), 3);
        rises.unload(0);
        due("the deck rises at once", rises.lip(), 0);

        says("- `lane`: a lane");
        FerryRamp lanes = played("cross 1 patience 50; car 0 5; car 0 6; car 0 7;", "tick 4;");
        for (int lane = 2; lane >= 0; lane--) {
            due("the lane " + lane, lanes.unload(lane), lane);
        }

        says("Returns the car; or minus the reason:");
        due("car 0", played("car 0 5;", "tick 4;").unload(0), 0);
        due("car 1", played(TWO, "wave 1; dismiss 0; tick 4;").unload(0), 1);
        due("minus the reason", new FerryRamp().unload(0), -1);
    }

    private static void unloadReasons() {
        says("1 no car stands there;");
        due("a new object", new FerryRamp().unload(2), -1);
        due("another lane", played("car 0 5;", "tick 4;").unload(1), -1);
        due("the car on the ramp drives there", played("car 0 5;", "tick;").unload(0), -1);
        due("unloaded already", played("car 0 5;", "tick 4; unload 0;").unload(0), -1);
        due("ahead of 2", played(TWO, "tick 4;").unload(1), -1);

        says("2 a car is on the ramp;");
        due("for another lane", played(TWO, "tick 4;").unload(0), -2);
        due("for this lane", played("lanes 9 load 99 list 0;" + TWO, "tick 4;").unload(1), -2);
        due("on deck, too", played(TWO, "tick 7;").unload(0), 0);
        String still = "winch 1 50 0; cross 1 patience 50; car 0 1; kind 0 ";
        due("ahead of 3", played(still + "0 9 1;", "tick 2; crank 1; car 1 1; tick;").unload(0), -2);
        due("ahead of 4", played(still + "9 0 1;", "tick 2; crank 1; car 1 1; tick;").unload(0), -2);

        says("3 the slope is greater than its STEEP;");
        due("STEEP", played(still + "7 9 1;", "tick 2; crank 7;").unload(0), 0);
        due("STEEP and 1", played(still + "7 9 1;", "tick 2; crank 8;").unload(0), -3);
        due("STEEP and 1 below", played(still + "7 9 1;", "tick 2; crank -8;").unload(0), -3);
        due("ahead of 4", played(still + "7 3 1;", "tick 2; crank 8;").unload(0), -3);
        String other = "winch 1 50 0; cross 1 patience 50; lanes 9 load 99 list 0; kind 0 0 99 1; car 0 1; car 1 1;";
        due("that of the last car of the lane", played(other, "tick 3; crank 1;").unload(1), 1);
        due("that of the one ahead of it", played(other, "tick 3; crank 1; unload 1;").unload(1), -3);

        says("4 the lip is greater than its LIP.");
        due("LIP", played(still + "99 7 1;", "tick 2; crank 7;").unload(0), 0);
        due("LIP and 1", played(still + "99 7 1;", "tick 2; crank 8;").unload(0), -4);
        due("LIP and 1 below", played(still + "99 7 1;", "tick 2; crank -8;").unload(0), -4);
        due("the deck with its load", played("deck 9 sink 1;" + still + "99 4 1;", "tick 2; crank -4;").unload(0), 0);
        due("the deck with its load", played("deck 9 sink 1;" + still + "99 4 1;", "tick 2; crank -6;").unload(0), -4);

        says("Throws `IndexOutOfBoundsException` if there is no such lane");
        for (int lane : new int[] {-1, 3, MIN, MAX}) {
            index("unload(" + lane + ")", x -> x.unload(lane));
        }
    }

    private static void setGate() {
        says("Opens the gate, or closes it.");
        FerryRamp x = ramp("car 0 5;");
        x.setGate(false);
        counts("closed", x, 16, 0);
        x.tick(5);
        counts("no car begins", x, 8, NONE);
        x.setGate(true);
        counts("open", x, 16, 1);
        x.tick(1);
        counts("a car begins", x, 8, 0);
        x.setGate(false);
        x.tick(3);
        counts("a car on the ramp drives on", x, 2, 1);

        says("- `isOpen`: whether it is open from now on");
        counts("false", played("", "gate closed; tick 9;"), 16, 0);
        counts("true", played("", "gate closed; gate open; tick 9;"), 16, 1);

        says("Returns 0; or minus the reason:");
        FerryRamp y = new FerryRamp();
        due("closed", y.setGate(false), 0);
        due("open", y.setGate(true), 0);
        due("minus the reason", y.setGate(true), -1);

        says("1 it is so already.");
        due("open", new FerryRamp().setGate(true), -1);
        due("closed", played("", "gate closed;").setGate(false), -1);
        due("the account", y.account(1), 1);
    }

    private static void crank() {
        says("The crew cranks the end of the ramp by hand: END grows by so much");
        counts("1", played("", "crank 1;"), 4, 1);
        counts("-1", played("", "crank -1;"), 4, -1);
        counts("20", played("quay 7;", "crank 3; crank 20;"), 4, 23);
        counts("-20", played("quay 7;", "crank 3; crank -20;"), 4, -17);

        says("(it has no bounds; the winch stays as it is).");
        FerryRamp deep = new FerryRamp();
        FerryRamp high = new FerryRamp();
        for (int times = 1; times <= 400; times++) {
            due("down", deep.crank(-20), 20 * times);
            due("up", high.crank(20), 20 * times);
        }
        counts("far below", deep, 4, -8000);
        counts("far above", high, 4, 8000);
        counts("asleep", high, 5, 0);
        FerryRamp waking = played("winch 1 3 9;", "crank 4; tick 3; crank -4;");
        counts("waking", waking, 5, 1);
        counts("with its ticks left", waking, 6, 7);
        FerryRamp awake = played("winch 1 3 0;", "crank 4; tick; crank -3;");
        counts("awake at the lip 0", awake, 5, 2);

        says("- `by`: -20 to 20");
        for (int by : new int[] {-20, -19, -1, 1, 19, 20}) {
            FerryRamp x = new FerryRamp();
            due("crank(" + by + ")", x.crank(by), Math.abs(by));
            counts("crank(" + by + ")", x, 4, by);
        }

        says("Returns the lip then; or minus the reason:");
        FerryRamp x = ramp("deck 5 sink 1;");
        int[] by = {3, 4, -7, -1, 1};
        int[] lip = {3, 7, 0, 1, 0};
        for (int index = 0; index < by.length; index++) {
            due("crank(" + by[index] + ")", x.crank(by[index]), lip[index]);
        }
        due("minus the reason", x.crank(0), -1);

        says("1 by is 0;");
        due("0", new FerryRamp().crank(0), -1);
        due("ahead of 2", played("car 0 5;", "tick;").crank(0), -1);

        says("2 a car is on the ramp.");
        due("1", played("car 0 5;", "tick;").crank(1), -2);
        due("-20", played("car 0 5;", "tick 3;").crank(-20), -2);
        due("on deck", played("car 0 5;", "tick 4;").crank(1), 1);
        due("in the queue", played("car 0 5;", "gate closed; tick;").crank(1), 1);

        says("Throws `IllegalArgumentException` if by is out of range");
        for (int wrong : new int[] {-21, 21, MIN, MAX}) {
            argument("crank(" + wrong + ")", y -> y.crank(wrong));
        }
    }

    private static void dueWinch(FerryRamp x, int pull, int slack, int wake) {
        due("PULL", x.setting(9), pull);
        due("SLACK", x.setting(10), slack);
        due("WAKE", x.setting(11), wake);
    }

    private static void setWinch() {
        says("Sets PULL, SLACK and WAKE (also to what they are);");
        dueWinch(played("", "winch 7 8 9;"), 7, 8, 9);
        FerryRamp x = played("", "winch 7 8 9;");
        due("to what they are", x.setWinch(7, 8, 9), 0);
        counts("it is an act", x, 17, 2);
        dueWinch(x, 7, 8, 9);
        counts("the new SLACK", played("", "winch 7 3 9; crank 4; tick;"), 5, 1);
        counts("the new WAKE", played("", "winch 7 3 9; crank 4; tick;"), 6, 9);
        counts("the new PULL", played("", "winch 3 3 0; crank 9; tick;"), 4, 6);

        says("a winch that is waking keeps the ticks left.");
        FerryRamp waking = played("winch 2 3 9;", "crank 20; tick 2; winch 3 50 1;");
        counts("8 left", waking, 6, 8);
        waking.tick(7);
        counts("1 left", waking, 6, 1);
        waking.setWinch(3, 50, 20);
        waking.tick(1);
        counts("awake", waking, 5, 2);
        counts("with the new PULL", waking, 4, 17);
        FerryRamp none = played("winch 2 3 9;", "crank 20; tick; winch 3 3 0;");
        counts("WAKE 0", none, 6, 9);
        counts("WAKE 0", none, 5, 1);

        says("- `pull`: 1 to 20");
        dueWinch(played("", "winch 1 0 0;"), 1, 0, 0);
        due("1", new FerryRamp().setWinch(1, 5, 5), 0);
        due("20", new FerryRamp().setWinch(20, 5, 5), 0);
        says("- `slack`: 0 to 50");
        due("0", new FerryRamp().setWinch(5, 0, 5), 0);
        due("50", new FerryRamp().setWinch(5, 50, 5), 0);
        says("- `wake`: 0 to 20");
        due("0", new FerryRamp().setWinch(5, 5, 0), 0);
        due("20", new FerryRamp().setWinch(5, 5, 20), 0);

        says("Returns 0.");
        FerryRamp most = new FerryRamp();
        due("the greatest", most.setWinch(20, 50, 20), 0);
        dueWinch(most, 20, 50, 20);
        due("the least", most.setWinch(1, 0, 0), 0);
        dueWinch(most, 1, 0, 0);

        says("Throws `IllegalArgumentException` if pull, slack or wake is out of range");
        for (int wrong : new int[] {0, 21, -1, MIN, MAX}) {
            argument("the pull " + wrong, y -> y.setWinch(wrong, 0, 0));
        }
        for (int wrong : new int[] {-1, 51, MIN, MAX}) {
            argument("the slack " + wrong, y -> y.setWinch(1, wrong, 0));
        }
        for (int wrong : new int[] {-1, 21, MIN, MAX}) {
            argument("the wake " + wrong, y -> y.setWinch(1, 0, wrong));
        }
    }

    private static void setCross() {
        says("Sets CROSS and PATIENCE (also to what they are).");
        FerryRamp x = played("", "cross 7 patience 8;");
        due("CROSS", x.setting(12), 7);
        due("PATIENCE", x.setting(13), 8);
        due("to what they are", x.setCross(7, 8), 0);
        counts("it is an act", x, 17, 2);
        due("CROSS", x.setting(12), 7);
        counts("the new CROSS", played("car 0 5;", "cross 1 patience 1; tick 2;"), 2, 1);
        counts("the new PATIENCE", played("quay 300; car 0 5;", "cross 1 patience 1; tick 2;"), 12, 2);

        says("- `cross`: 1 to 20");
        due("1", new FerryRamp().setCross(1, 5), 0);
        due("20", new FerryRamp().setCross(20, 5), 0);

        says("- `patience`: 1 to 50; if WAITING is as many already, or more, the crew is called when it grows next");
        String steep = "quay 300; cross 3 patience 20; car 0 5;";
        for (int patience : new int[] {1, 2, 8, 9, 10}) {
            FerryRamp y = played(steep, "tick 9; cross 3 patience " + patience + ";");
            counts("PATIENCE " + patience + ": WAITING stays", y, 11, 9);
            counts("PATIENCE " + patience + ": no call yet", y, 12, 0);
            y.tick(1);
            counts("PATIENCE " + patience + ": the crew is called", y, 12, 1);
            counts("PATIENCE " + patience + ": WAITING is 0", y, 11, 0);
        }
        FerryRamp eleven = played(steep, "tick 9; cross 3 patience 11; tick;");
        counts("PATIENCE 11", eleven, 12, 0);
        eleven.tick(1);
        counts("PATIENCE 11, a tick behind that", eleven, 12, 1);
        FerryRamp closed = played(steep, "tick 9; cross 3 patience 2; gate closed; tick 5;");
        counts("it does not grow behind a closed gate", closed, 12, 0);
        closed.setGate(true);
        closed.tick(1);
        counts("it grows", closed, 12, 1);
        due("1", new FerryRamp().setCross(5, 1), 0);
        due("50", new FerryRamp().setCross(5, 50), 0);

        says("Returns 0.");
        FerryRamp most = new FerryRamp();
        due("the greatest", most.setCross(20, 50), 0);
        due("CROSS", most.setting(12), 20);
        due("PATIENCE", most.setting(13), 50);
        due("the least", most.setCross(1, 1), 0);
        due("CROSS", most.setting(12), 1);
        due("PATIENCE", most.setting(13), 1);

        says("Throws `IllegalArgumentException` if cross or patience is out of range");
        for (int wrong : new int[] {0, 21, -1, MIN, MAX}) {
            argument("the cross " + wrong, y -> y.setCross(wrong, 1));
        }
        for (int wrong : new int[] {0, 51, -1, MIN, MAX}) {
            argument("the patience " + wrong, y -> y.setCross(1, wrong));
        }
    }

    private static void setCrossDriven() {
        says("A car on the ramp that has driven in CROSS ticks already, or in more, comes on deck in the next tick in which it drives.");
        for (int cross : new int[] {1, 4, 5, 6}) {
            FerryRamp x = played("cross 20 patience 50; car 0 5;", "tick 6; cross " + cross + " patience 50;");
            counts("CROSS " + cross + ": driven in", x, 9, 5);
            counts("CROSS " + cross + ": on the ramp still", x, 8, 0);
            due("CROSS " + cross + ": the next tick", x.tick(1), 1);
        }
        FerryRamp seven = played("cross 20 patience 50; car 0 5;", "tick 6; cross 7 patience 50;");
        due("CROSS 7", seven.tick(1), 0);
        due("CROSS 7, a tick behind that", seven.tick(1), 1);
        FerryRamp still = played("tide 0 10 half 10; winch 20 50 0; kind 0 500 2 1; cross 9 patience 50; car 0 5;",
            "tick 2; cross 1 patience 50;");
        counts("driven in", still, 9, 1);
        due("it stands still for 15 ticks", still.tick(15), 0);
        due("the next tick in which it drives", still.tick(1), 1);
    }
}
