/** The sentences of the promises 8 to 16: what there is. */
final class StandSentences extends Sentences {
    static void run() {
        section("Promise 8");
        countOfCars();
        countOfWinch();
        countOfRamp();
        countSoFar();
        section("Promise 9");
        setting();
        section("Promise 10");
        kind();
        section("Promise 11");
        car();
        section("Promise 12");
        queued();
        section("Promise 13");
        standing();
        section("Promise 14");
        lane();
        section("Promise 15");
        call();
        section("Promise 16");
        account();
    }

    private static void countOfCars() {
        plain("- `what`:");
        says("0: TIME;");
        counts("a new object", new FerryRamp(), 0, 0);
        counts("52 ticks", played("", "tick 50; tick 2;"), 0, 52);

        says("1: cars in the queue;");
        counts("none", new FerryRamp(), 1, 0);
        counts("3 that arrived", ramp("car 0 5; car 0 5; car 0 5;"), 1, 3);
        counts("one on the ramp", played("car 0 5; car 0 5; car 0 5;", "tick;"), 1, 2);
        counts("one dismissed", played("car 0 5; car 0 5; car 0 5;", "tick; dismiss 1;"), 1, 1);
        counts("20", ramp("car 0 5;".repeat(20)), 1, 20);

        says("2: cars on deck;");
        counts("none", ramp("car 0 5;"), 2, 0);
        counts("on the ramp", played("car 0 5; car 0 5;", "tick;"), 2, 0);
        counts("one", played("car 0 5; car 0 5;", "tick 4;"), 2, 1);
        counts("two", played("car 0 5; car 0 5;", "tick 7;"), 2, 2);
        counts("one unloaded", played("car 0 5; car 0 5;", "tick 7; unload 0;"), 2, 1);
        counts("both unloaded", played("car 0 5; car 0 5;", "tick 7; unload 0; unload 1;"), 2, 0);

        says("3: cars so far;");
        counts("none", new FerryRamp(), 3, 0);
        counts("wherever they are", played("car 0 5; car 0 5; car 0 5;", "tick 4; car 0 5; dismiss 3;"), 3, 4);
        counts("unloaded", played("car 0 5;", "tick 4; unload 0;"), 3, 1);
        FerryRamp many = new FerryRamp();
        for (int car = 0; car < 60; car++) {
            many.arrive(0, 1);
            many.dismiss(car);
        }
        many.arrive(0, 1);
        counts("60, one refused", many, 3, 60);
        many.undo();
        many.undo();
        counts("undone", many, 3, 59);

        says("4: END;");
        counts("at first", ramp("tide -7 9 half 3; deck 2 sink 1;"), 4, -5);
        counts("cranked", played("tide -7 9 half 3; deck 2 sink 1;", "crank -20;"), 4, -25);
        counts("it is not DECK", played("tide 0 20 half 10;", "tick;"), 4, 0);
    }

    private static void countOfWinch() {
        says("5: the winch (0 asleep, 1 waking, 2 awake);");
        counts("asleep", played("winch 1 3 2;", "crank 3; tick;"), 5, 0);
        counts("waking", played("winch 1 3 2;", "crank 4; tick;"), 5, 1);
        counts("waking still", played("winch 1 3 2;", "crank 4; tick 2;"), 5, 1);
        counts("awake", played("winch 1 3 2;", "crank 4; tick 3;"), 5, 2);
        counts("awake still", played("winch 1 3 2;", "crank 4; tick 5;"), 5, 2);
        counts("asleep again", played("winch 1 3 2;", "crank 4; tick 6;"), 5, 0);

        says("6: ticks left of waking (0 if it is not waking);");
        counts("asleep", played("winch 1 3 2;", "crank 3; tick;"), 6, 0);
        counts("2", played("winch 1 3 2;", "crank 4; tick;"), 6, 2);
        counts("1", played("winch 1 3 2;", "crank 4; tick 2;"), 6, 1);
        counts("awake", played("winch 1 3 2;", "crank 4; tick 3;"), 6, 0);
        counts("asleep again", played("winch 1 3 2;", "crank 4; tick 6;"), 6, 0);
        counts("20", played("winch 1 3 20;", "crank 4; tick;"), 6, 20);
        counts("WAKE 0", played("winch 1 3 0;", "crank 4; tick;"), 6, 0);

        says("7: the load;");
        counts("none", ramp("car 0 999;"), 7, 0);
        counts("999", played("car 0 999;", "tick 4;"), 7, 999);
        counts("two cars", played("car 0 900; car 0 100;", "tick 7;"), 7, 1000);
        counts("unloaded", played("car 0 900; car 0 100;", "tick 7; unload 0;"), 7, 100);
    }

    private static void countOfRamp() {
        says("8: the car on the ramp (NONE);");
        counts("none", ramp("car 0 5;"), 8, NONE);
        counts("car 0", played("car 0 5;", "tick;"), 8, 0);
        counts("car 1", played("car 0 5; car 0 5;", "wave 1; tick;"), 8, 1);
        counts("on deck", played("car 0 5;", "tick 4;"), 8, NONE);
        FerryRamp last = new FerryRamp();
        for (int car = 0; car < 60; car++) {
            last.arrive(0, 1);
            if (car < 59) {
                last.dismiss(car);
            }
        }
        last.tick(1);
        counts("car 59", last, 8, 59);

        says("9: in how many ticks it has driven (0 without one);");
        counts("without one", ramp("car 0 5;"), 9, 0);
        counts("it began", played("car 0 5;", "tick;"), 9, 0);
        counts("1", played("car 0 5;", "tick 2;"), 9, 1);
        counts("2", played("car 0 5;", "tick 3;"), 9, 2);
        counts("on deck", played("car 0 5;", "tick 4;"), 9, 0);
        counts("the next one began", played("car 0 5; car 0 5;", "tick 4;"), 9, 0);
        counts("19 of 20", played("cross 20 patience 1; car 0 5;", "tick 20;"), 9, 19);
        String rising = "tide 0 10 half 10; winch 20 50 0; cross 20 patience 50; kind 0 500 2 1; car 0 5;";
        counts("a tick in which it stood", played(rising, "tick 3;"), 9, 1);

        says("10: ticks so far in which a car stood still on the ramp;");
        counts("none", played("car 0 5;", "tick 4;"), 10, 0);
        counts("2", played(rising, "tick 4;"), 10, 2);
        counts("cars in the queue do not count", played("quay 200; car 0 5;", "tick 9;"), 10, 0);
        FerryRamp on = played(rising, "tick 20;");
        counts("it drove on", on, 10, 15);
        on.tick(20);
        counts("the next rise", on, 10, 30);
    }

    private static void countSoFar() {
        String steep = "quay 200; cross 3 patience 4; car 0 5;";
        says("11: WAITING;");
        counts("at first", ramp(steep), 11, 0);
        counts("3", played(steep, "tick 3;"), 11, 3);
        counts("PATIENCE", played(steep, "tick 4;"), 11, 0);

        says("12: calls of the crew so far;");
        counts("none", played(steep, "tick 3;"), 12, 0);
        counts("one", played(steep, "tick 4;"), 12, 1);
        counts("12", played(steep, "tick 50;"), 12, 12);
        counts("more than are kept", played(steep, "tick 50; tick 50;"), 12, 25);

        says("13: cars that came on deck so far;");
        counts("none", played("car 0 5; car 0 5;", "tick 3;"), 13, 0);
        counts("one", played("car 0 5; car 0 5;", "tick 4;"), 13, 1);
        counts("one that was unloaded counts", played("car 0 5; car 0 5;", "tick 7; unload 1;"), 13, 2);

        says("14: cars that were unloaded so far;");
        counts("none", played("car 0 5; car 0 5;", "tick 7;"), 14, 0);
        counts("one", played("car 0 5; car 0 5;", "tick 7; unload 1;"), 14, 1);
        counts("two", played("car 0 5; car 0 5;", "tick 7; unload 1; unload 0;"), 14, 2);
        counts("dismissed", played("car 0 5; car 0 5;", "dismiss 0;"), 14, 0);

        says("15: the greatest slope on which a car drove so far (0 if none did);");
        counts("none", played("quay 9;", "tick 9;"), 15, 0);
        counts("it began", played("quay 9; car 0 5;", "tick;"), 15, 0);
        counts("it drove", played("quay 9; car 0 5;", "tick 2;"), 15, 9);
        counts("a slope below", played("quay -9; car 0 5;", "tick 2;"), 15, 9);
        counts("a slope of 0", played("car 0 5;", "tick 2;"), 15, 0);
        counts("less behind that", played("quay 9; winch 1 50 0; car 0 5;", "tick 4; crank 2; car 0 5; tick 2;"), 15, 9);
        counts("more behind that", played("quay 9; winch 1 50 0; car 0 5;", "tick 4; crank -2; car 0 5; tick 2;"), 15, 11);
        counts("a slope without a car", played("quay 9; winch 1 50 0; car 0 5;", "tick 4; crank -20; tick 9;"), 15, 9);
        counts("unloading is no driving", played("quay 9; winch 1 50 0; car 0 5;", "tick 4; crank -2; unload 0;"), 15, 9);
        counts("it stood on a greater one", played("tide 0 10 half 10; winch 20 0 0; kind 0 2 0 1; car 0 5;", "tick 9;"), 15, 2);

        says("16: 1 if the gate is open, else 0;");
        counts("at first", new FerryRamp(), 16, 1);
        counts("closed", played("", "gate closed;"), 16, 0);
        counts("open", played("", "gate closed; gate open;"), 16, 1);

        says("17: acts that can be undone");
        counts("none", new FerryRamp(), 17, 0);
        counts("3", played("", "tick; tick; crank 1;"), 17, 3);
        counts("8 of 9", played("", "tick;".repeat(9)), 17, 8);
        FerryRamp undone = played("", "tick; tick;");
        undone.undo();
        counts("one undone", undone, 17, 1);
        undone.crank(0);
        counts("one refused", undone, 17, 1);
        plain("Returns that number.");

        says("Throws `IllegalArgumentException` if what is out of range");
        for (int what : new int[] {-1, 18, MIN, MAX}) {
            argument("count(" + what + ")", x -> x.count(what));
        }
    }

    private static void setting() {
        plain("- `what`:");
        FerryRamp x = ramp("tide -11 12 half 13; quay -14; deck 15 sink 16; lanes 17 load 18 list 19; winch 10 21 12;"
            + "cross 13 patience 24;");
        String[] words = {"0: LOW;", "1: HIGH;", "2: HALF;", "3: QUAY;", "4: FREE;", "5: SINK;", "6: LANE;", "7: LOAD;",
            "8: LIST;", "9: PULL;", "10: SLACK;", "11: WAKE;", "12: CROSS;", "13: PATIENCE"};
        int[] want = {-11, 12, 13, -14, 15, 16, 17, 18, 19, 10, 21, 12, 13, 24};
        for (int what = 0; what < want.length; what++) {
            says(words[what]);
            due("setting(" + what + ")", x.setting(what), want[what]);
        }
        x.setWinch(1, 2, 3);
        x.setCross(4, 5);
        for (int what = 9; what < 14; what++) {
            due("set: setting(" + what + ")", x.setting(what), what - 8);
        }
        plain("Returns that number.");
        says("Throws `IllegalArgumentException` if what is out of range");
        for (int what : new int[] {-1, 14, MIN, MAX}) {
            argument("setting(" + what + ")", y -> y.setting(what));
        }
    }

    private static void kind() {
        FerryRamp x = ramp("kind 0 11 12 3; kind 1 21 22 4; kind 2 31 32 5; kind 3 41 42 6;");
        says("- `kind`: a kind");
        for (int kind = 0; kind < 4; kind++) {
            due("kind(" + kind + ", 0)", x.kind(kind, 0), 10 * kind + 11);
        }
        plain("- `what`:");
        says("0: STEEP;");
        due("kind(3, 0)", x.kind(3, 0), 41);
        says("1: LIP;");
        due("kind(3, 1)", x.kind(3, 1), 42);
        due("kind(0, 1)", x.kind(0, 1), 12);
        says("2: LENGTH");
        due("kind(3, 2)", x.kind(3, 2), 6);
        due("kind(0, 2)", x.kind(0, 2), 3);
        plain("Returns that number.");
        says("Throws `IndexOutOfBoundsException` if there is no such kind");
        for (int kind : new int[] {-1, 4, MIN, MAX}) {
            index("kind(" + kind + ", 0)", y -> y.kind(kind, 0));
        }
        says("Throws `IllegalArgumentException` if what is out of range");
        for (int what : new int[] {-1, 3, MIN, MAX}) {
            argument("kind(0, " + what + ")", y -> y.kind(0, what));
            argument("kind(3, " + what + ")", y -> y.kind(3, what));
        }
    }

    private static void dueCar(String when, FerryRamp x, int car, int what, int want) {
        due(when + ": car(" + car + ", " + what + ")", x.car(car, what), want);
    }

    private static void car() {
        String two = "car 1 40; car 3 50;";
        says("- `car`: a car");
        dueCar("the first one", ramp(two), 0, 1, 40);
        dueCar("the last one", ramp(two), 1, 1, 50);
        plain("- `what`:");
        says("0: its kind;");
        dueCar("kind 1", ramp(two), 0, 0, 1);
        dueCar("kind 3", ramp(two), 1, 0, 3);
        says("1: its weight;");
        dueCar("999", ramp("car 0 999;"), 0, 1, 999);
        dueCar("1", ramp("car 0 1;"), 0, 1, 1);

        says("2: where it is (0 in the queue, 1 on the ramp, 2 on deck, 3 unloaded, 4 dismissed);");
        dueCar("in the queue", ramp(two), 1, 2, 0);
        dueCar("on the ramp", played(two, "tick 3;"), 0, 2, 1);
        dueCar("on deck", played(two, "tick 4;"), 0, 2, 2);
        dueCar("unloaded", played(two, "tick 7; unload 0;"), 0, 2, 3);
        dueCar("dismissed", played(two, "dismiss 1;"), 1, 2, 4);

        says("3: its lane (NONE if it did not begin to drive);");
        dueCar("in the queue", played(two, "tick 3;"), 1, 3, NONE);
        dueCar("on the ramp", played(two, "tick;"), 0, 3, 0);
        dueCar("on deck", played(two, "tick 7;"), 1, 3, 1);
        dueCar("unloaded", played(two, "tick 7; unload 1;"), 1, 3, 1);
        dueCar("dismissed", played(two, "dismiss 0;"), 0, 3, NONE);

        says("4: the TIME at which it arrived;");
        dueCar("of a setup", played(two, "tick 5;"), 1, 4, 0);
        dueCar("behind ticks", played("", "tick 5; car 0 5; tick 2;"), 0, 4, 5);
        dueCar("at 0", played("", "car 0 5; tick 2;"), 0, 4, 0);

        says("5: the TIME at which it began to drive (NONE);");
        dueCar("in the queue", played(two, "tick 3;"), 1, 5, NONE);
        dueCar("at 1", played(two, "tick 3;"), 0, 5, 1);
        dueCar("at 4", played(two, "tick 7;"), 1, 5, 4);
        dueCar("unloaded", played(two, "tick 7; unload 1;"), 1, 5, 4);
        dueCar("dismissed", played(two, "tick; dismiss 1; tick;"), 1, 5, NONE);

        says("6: the TIME at which it came on deck (NONE)");
        dueCar("on the ramp", played(two, "tick 3;"), 0, 6, NONE);
        dueCar("at 4", played(two, "tick 4;"), 0, 6, 4);
        dueCar("at 7", played(two, "tick 20;"), 1, 6, 7);
        dueCar("unloaded", played(two, "tick 7; unload 1;"), 1, 6, 7);
        dueCar("dismissed", played(two, "tick; dismiss 1; tick 9;"), 1, 6, NONE);
        plain("Returns that number.");

        says("Throws `IndexOutOfBoundsException` if there is no such car");
        throwsIndex("of no cars", () -> new FerryRamp().car(0, 0));
        for (int car : new int[] {-1, 9, 60, MIN, MAX}) {
            index("car(" + car + ", 0)", x -> x.car(car, 0));
        }
        FerryRamp fewer = ramp(two);
        fewer.arrive(0, 5);
        fewer.undo();
        throwsIndex("a car whose arrival was undone", () -> fewer.car(2, 0));
        load(fewer, "car 0 5;");
        throwsIndex("a car of the former setup", () -> fewer.car(1, 0));

        says("Throws `IllegalArgumentException` if what is out of range");
        for (int what : new int[] {-1, 7, MIN, MAX}) {
            argument("car(0, " + what + ")", x -> x.car(0, what));
            argument("car(8, " + what + ")", x -> x.car(8, what));
        }
    }

    private static void queued() {
        says("- `index`: 0 for the first car of the queue");
        FerryRamp x = played("car 0 5; car 0 6; car 0 7;", "wave 2;");
        due("the first one", x.queued(0), 2);
        due("the last one", x.queued(2), 1);
        due("the last one of 20", ramp("car 0 5;".repeat(20)).queued(19), 19);

        says("Returns this car;");
        due("car 0", x.queued(1), 0);
        x.dismiss(0);
        due("the next one closes up", x.queued(1), 1);

        says("NONE if there is none.");
        due("an empty queue", new FerryRamp().queued(0), NONE);
        for (int index : new int[] {-1, 2, 3, 19, 20, 60, MIN, MAX}) {
            due("queued(" + index + ")", x.queued(index), NONE);
        }
        due("behind 20", ramp("car 0 5;".repeat(20)).queued(20), NONE);
    }

    private static void standing() {
        FerryRamp x = played("cross 1 patience 50; car 0 10; car 0 20; car 0 30; car 0 5; car 0 100;", "tick 5;");
        says("- `lane`: a lane");
        for (int lane = 0; lane < 3; lane++) {
            due("standing(" + lane + ", 0)", x.standing(lane, 0), lane);
        }
        says("- `index`: 0 for its first car");
        due("standing(0, 0)", x.standing(0, 0), 0);
        due("standing(0, 1)", x.standing(0, 1), 3);

        says("Returns this car on deck;");
        FerryRamp ramp = played("car 0 5;", "tick 3;");
        due("a car on the ramp", ramp.standing(0, 0), NONE);
        ramp.tick(1);
        due("on deck", ramp.standing(0, 0), 0);
        FerryRamp full = ramp("lanes 30 load 9999 list 0; deck 0 sink 999; cross 1 patience 50;");
        for (int car = 0; car < 30; car++) {
            full.arrive(0, 1);
            full.tick(1);
        }
        full.tick(1);
        due("the last one of 30", full.standing(1, 29), 29);

        says("NONE if there is none.");
        due("an empty lane", full.standing(0, 0), NONE);
        due("behind 30", full.standing(1, 30), NONE);
        for (int index : new int[] {-1, 2, 29, 30, MIN, MAX}) {
            due("standing(0, " + index + ")", x.standing(0, index), NONE);
        }
        due("before the lane 2", x.standing(2, -1), NONE);
        due("before the lane 1", x.standing(1, -30), NONE);
        x.tick(1);
        x.unload(2);
        due("unloaded", x.standing(2, 0), NONE);

        says("Throws `IndexOutOfBoundsException` if there is no such lane");
        for (int lane : new int[] {-1, 3, MIN, MAX}) {
            index("standing(" + lane + ", 0)", y -> y.standing(lane, 0));
            index("standing(" + lane + ", -1)", y -> y.standing(lane, -1));
        }
    }

    private static void lane() {
        FerryRamp x = played("cross 1 patience 50; car 0 10; car 1 20; car 2 30;", "tick 4;");
        says("- `lane`: a lane");
        for (int lane = 0; lane < 3; lane++) {
            due("the weight of the lane " + lane, x.lane(lane, false), 10 * lane + 10);
        }
        says("- `isFree`: whether what is free of it is meant, not its weight");
        for (int lane = 0; lane < 3; lane++) {
            due("what is free of the lane " + lane, x.lane(lane, true), 9 - lane);
        }
        due("nothing free", played("lanes 1 load 9 list 9; car 0 5;", "tick;").lane(0, true), 0);
        due("an empty lane", new FerryRamp().lane(2, true), 10);
        due("the weight of an empty lane", new FerryRamp().lane(2, false), 0);

        says("Returns that number (with the car on the ramp, if it drives there).");
        FerryRamp ramp = played("car 2 30;", "tick;");
        due("its weight", ramp.lane(0, false), 30);
        due("what it takes", ramp.lane(0, true), 7);
        due("another lane's weight", ramp.lane(1, false), 0);
        due("what is free of another lane", ramp.lane(1, true), 10);
        ramp.tick(3);
        due("on deck its weight counts once", ramp.lane(0, false), 30);
        due("on deck its length counts once", ramp.lane(0, true), 7);
        ramp.unload(0);
        due("unloaded: the weight", ramp.lane(0, false), 0);
        due("unloaded: what is free", ramp.lane(0, true), 10);

        says("Throws `IndexOutOfBoundsException` if there is no such lane");
        for (int lane : new int[] {-1, 3, MIN, MAX}) {
            index("lane(" + lane + ", true)", y -> y.lane(lane, true));
            index("lane(" + lane + ", false)", y -> y.lane(lane, false));
        }
    }

    private static void dueCall(String when, FerryRamp x, int call, int what, int want) {
        due(when + ": call(" + call + ", " + what + ")", x.call(call, what), want);
    }

    private static void call() {
        String setup = "quay 50; kind 0 9 9 1; cross 1 patience 2; car 0 5; car 0 6; car 1 7;";
        says("- `call`: a call of the crew, 0 for the latest one that is kept, 1 for the one ahead of it, and so on");
        FerryRamp x = played(setup, "tick 5; wave 1; tick;");
        dueCall("the latest one", x, 0, 0, 6);
        dueCall("the one ahead of it", x, 1, 0, 4);
        dueCall("and so on", x, 2, 0, 2);
        plain("- `what`:");
        says("0: its TIME;");
        dueCall("at 2", played(setup, "tick 3;"), 0, 0, 2);
        says("1: the first car of the queue then;");
        dueCall("car 0", x, 2, 1, 0);
        dueCall("car 1", x, 0, 1, 1);
        FerryRamp gone = played(setup, "tick 2; dismiss 0; dismiss 1;");
        dueCall("it was dismissed behind that", gone, 0, 1, 0);
        says("2: the reason why that one could not begin;");
        dueCall("6", x, 0, 2, 6);
        dueCall("3", played("lanes 3 load 9 list 9; car 3 1; cross 1 patience 1;", "tick;"), 0, 2, 3);
        dueCall("4", played("lanes 3 load 9 list 9; car 0 10; cross 1 patience 1;", "tick;"), 0, 2, 4);
        FerryRamp leaning = leaning();
        leaning.setCross(1, 1);
        leaning.arrive(0, 39);
        leaning.tick(1);
        dueCall("5", leaning, 0, 2, 5);
        dueCall("7", played("winch 1 50 0; cross 1 patience 1; car 0 5;", "crank 11; tick;"), 0, 2, 7);
        says("3: the car that began instead (NONE if there was none)");
        dueCall("car 2", x, 2, 3, 2);
        dueCall("none", x, 1, 3, NONE);
        dueCall("car 0", played("quay 50; kind 1 9 9 1; cross 1 patience 1; car 0 5; car 1 6;", "wave 1; tick;"), 0, 3, 0);
        plain("Returns that number.");

        says("Throws `IndexOutOfBoundsException` if there is no such call");
        throwsIndex("without a call", () -> ramp(setup).call(0, 0));
        throwsIndex("one more than there were", () -> x.call(3, 0));
        for (int call : new int[] {-1, 4, 19, 20, MIN, MAX}) {
            index("call(" + call + ", 0)", y -> y.call(call, 0));
        }
        FerryRamp many = played("quay 500; cross 1 patience 1; car 0 1;", "tick 50; tick 50;");
        dueCall("the last one that is kept", many, 19, 0, 81);
        throwsIndex("one that is kept no more", () -> many.call(20, 0));
        many.undo();
        dueCall("undone", many, 19, 0, 31);
        many.load();
        throwsIndex("calls ahead of load()", () -> many.call(0, 0));

        says("Throws `IllegalArgumentException` if what is out of range");
        for (int what : new int[] {-1, 4, MIN, MAX}) {
            argument("call(0, " + what + ")", y -> y.call(0, what));
            argument("call(2, " + what + ")", y -> y.call(2, what));
        }
    }

    private static void account() {
        plain("- `what`:");
        says("0: acts that were done;");
        due("none", new FerryRamp().account(0), 0);
        due("3", played("", "tick; crank 1; gate closed;").account(0), 3);
        due("10", played("", "tick;".repeat(10)).account(0), 10);
        FerryRamp x = new FerryRamp();
        x.crank(0);
        due("what was refused is not done", x.account(0), 0);

        says("1 to 4: refusals with this reason");
        due("1", x.account(1), 1);
        x.setGate(true);
        x.wave(0);
        x.dismiss(0);
        x.unload(0);
        due("5 with the reason 1", x.account(1), 5);
        int[] none = {0, 5, 0, 0, 0};
        for (int what = 0; what < 5; what++) {
            due("account(" + what + ")", x.account(what), none[what]);
        }
        FerryRamp two = played("car 0 5;", "tick;");
        two.crank(1);
        due("2", two.account(2), 1);
        String steep = "winch 1 50 0; cross 1 patience 50; car 0 1; kind 0 ";
        FerryRamp three = played(steep + "0 9 1;", "tick 2; crank 1;");
        three.unload(0);
        due("3", three.account(3), 1);
        due("not 4", three.account(4), 0);
        FerryRamp four = played(steep + "9 0 1;", "tick 2; crank 1;");
        four.unload(0);
        due("4", four.account(4), 1);
        due("not 3", four.account(3), 0);
        FerryRamp reasons = ramp("quay 200; car 0 5;");
        reasons.whyNot(0);
        reasons.tick(1);
        due("a car that cannot begin is no refusal", reasons.account(1) + reasons.account(4), 0);

        says("Returns that number (acts that were undone count, too).");
        FerryRamp undone = played("", "tick; tick; tick;");
        undone.undo();
        undone.undo();
        due("undone", undone.account(0), 3);
        undone.tick(1);
        due("and one more", undone.account(0), 4);
        FerryRamp kept = Look.busy();
        String accounts = Look.accounts(kept);
        kept.undo();
        kept.restore(0);
        kept.load();
        same("undo(), restore() and load() leave the accounts", Look.accounts(kept), accounts);

        says("Throws `IllegalArgumentException` if what is out of range");
        for (int what : new int[] {-1, 5, MIN, MAX}) {
            argument("account(" + what + ")", y -> y.account(what));
        }
    }
}
