/** The sentences of "Terms" on heights, the winch, cars, a tick, acts and exceptions. */
final class TermsSentences extends Sentences {
    static void run() {
        section("What it is");
        use();
        section("Terms");
        tides();
        deck();
        ramp();
        winchWakes();
        winchPulls();
        cars();
        lanes();
        suits();
        reasons();
        reasonsInTheirOrder();
        driving();
        steps();
        queueInATick();
        crew();
        acts();
        refusals();
        undoable();
        exceptions();
        headings();
    }

    private static void use() {
        says("An object is used for at most 512 calls after it has been made;");
        FerryRamp x = new FerryRamp();
        for (int call = 1; call < 512; call++) {
            x.setGate(call % 2 == 0);
        }
        due("the 512th call", x.account(0), 511);
        FerryRamp y = new FerryRamp();
        for (int call = 1; call < 512; call++) {
            y.tick(50);
        }
        due("the 512th call", y.count(0), 511 * 50);
        plain("A ferry ramp that keeps level with the tide: water that rises and falls, a deck that sinks with its load, a"
            + " sleepy winch that wakes late and pulls slowly, cars that drive over the ramp to lanes only while the slope and"
            + " the lip are not too great for them, a crew that is called and waves other cars ahead, with what would be,"
            + " setups and scripts as texts, accounts, undo.");
        plain("what later calls answer is free.");
    }

    private static void dueTides(FerryRamp x, int from, int... want) {
        for (int index = 0; index < want.length; index++) {
            due("tide(" + (from + index) + ")", x.tide(from + index), want[index]);
        }
    }

    private static void tides() {
        plain("HEIGHTS");
        says("TIME counts ticks, from 0 on.");
        counts("a new object", new FerryRamp(), 0, 0);
        counts("a setup", ramp("quay 1;"), 0, 0);
        counts("a tick", played("", "tick;"), 0, 1);
        counts("101 ticks", played("", "tick 50; tick; tick 50;"), 0, 101);
        counts("other acts", played("", "car 0 5; crank 1; gate closed;"), 0, 0);

        says("The tide rises from LOW to HIGH in HALF ticks, falls back in HALF ticks, and so on:");
        FerryRamp x = ramp("tide -7 8 half 5;");
        dueTides(x, 0, -7, -4, -1, 2, 5, 8, 5, 2, -1, -4, -7, -4, -1, 2, 5, 8, 5, 2, -1, -4, -7);
        dueTides(ramp("tide 3 9 half 1;"), 0, 3, 9, 3, 9, 3);
        dueTides(ramp("tide 4 4 half 2;"), 0, 4, 4, 4, 4, 4);

        says("with p the remainder of the time by 2 * HALF");
        FerryRamp slow = ramp("tide 0 99 half 99;");
        dueTides(slow, 196, 2, 1, 0, 1, 2);
        due("tide(MAX), p is 1", slow.tide(MAX), 1);
        due("tide(MAX - 1), p is 0", slow.tide(MAX - 1), 0);

        says("it is LOW + (HIGH - LOW) * p / HALF as long as p is at most HALF,");
        dueTides(ramp("tide 0 10 half 3;"), 0, 0, 3, 6, 10);
        dueTides(ramp("tide -500 500 half 99;"), 97, 479, 489, 500);

        says("otherwise LOW + (HIGH - LOW) * (2 * HALF - p) / HALF");
        dueTides(ramp("tide 0 10 half 3;"), 3, 10, 6, 3, 0);
        dueTides(ramp("tide -500 500 half 99;"), 99, 500, 489, 479);

        says("(quotients rounded down).");
        dueTides(ramp("tide -10 -3 half 2;"), 0, -10, -7, -3, -7, -10);
        dueTides(ramp("tide -1 0 half 3;"), 0, -1, -1, -1, 0, -1, -1, -1);
    }

    /** One car of this weight is on deck at the time 2. */
    private static FerryRamp loaded(String setup, int weight) {
        return played(setup + "kind 0 500 99 1; winch 1 50 0; cross 1 patience 50; car 0 " + weight + ";", "tick 2;");
    }

    private static void deck() {
        says("DECK, the height of the deck, is the tide and FREE, less the load divided by SINK (rounded down);");
        String setup = "tide 3 3 half 5; deck 7 sink 10;";
        due("no load", ramp(setup).deck(0), 10);
        int[][] decks = {{1, 10}, {9, 10}, {10, 9}, {19, 9}, {20, 8}, {99, 1}, {100, 0}, {109, 0}, {110, -1}};
        for (int[] deck : decks) {
            due("a load of " + deck[0], loaded(setup, deck[0]).deck(2), deck[1]);
        }
        due("a load of SINK", loaded("deck 0 sink 999;", 999).deck(2), -1);
        due("a load of SINK less 1", loaded("deck 0 sink 999;", 998).deck(2), 0);
        due("SINK 1", loaded("tide -3 -3 half 1; deck 300 sink 1;", 999).deck(2), -702);

        says("the load is the weight of all cars on deck.");
        FerryRamp x = played("cross 1 patience 50; car 0 30; car 0 40;", "tick;");
        counts("a car on the ramp, one in the queue", x, 7, 0);
        x.tick(1);
        counts("a car on deck, one on the ramp", x, 7, 30);
        x.tick(1);
        counts("two on deck", x, 7, 70);
        x.unload(0);
        counts("one of them unloaded", x, 7, 40);
        x.arrive(0, 50);
        x.dismiss(2);
        counts("one dismissed", x, 7, 40);
    }

    private static void ramp() {
        says("The ramp goes from the quay, at the height QUAY, to END, the height of its outer end.");
        FerryRamp x = ramp("tide 9 9 half 1; quay 5;");
        due("QUAY", x.setting(3), 5);
        counts("END", x, 4, 9);
        due("the slope between them", x.slope(), 4);
        x.crank(2);
        counts("END cranked", x, 4, 11);
        due("QUAY stays", x.setting(3), 5);
        due("the slope between them", x.slope(), 6);

        says("The slope is how far END and QUAY are apart,");
        FerryRamp slope = ramp("quay 5;");
        due("END below QUAY", slope.slope(), 5);
        slope.crank(5);
        due("END at QUAY", slope.slope(), 0);
        slope.crank(1);
        due("END above QUAY", slope.slope(), 1);
        due("both below 0", ramp("tide -9 -9 half 1; quay -20;").slope(), 11);

        says("the lip how far END and DECK are apart.");
        FerryRamp lip = ramp("tide 2 2 half 1; deck 3 sink 9;");
        due("END at DECK", lip.lip(), 0);
        lip.crank(1);
        due("END above DECK", lip.lip(), 1);
        lip.crank(-2);
        due("END below DECK", lip.lip(), 1);
        lip.crank(-20);
        due("END below 0", lip.lip(), 21);
    }

    private static void winch(String when, FerryRamp x, int winch, int left, int end) {
        counts(when, x, 5, winch);
        counts(when, x, 6, left);
        counts(when, x, 4, end);
    }

    /** END is above DECK by so much; then so many ticks pass. */
    private static FerryRamp winched(String setup, int by, int ticks) {
        FerryRamp x = ramp("winch " + setup + ";");
        for (int left = Math.abs(by); left > 0; left -= 20) {
            x.crank((by < 0 ? -1 : 1) * Math.min(20, left));
        }
        if (ticks > 0) {
            x.tick(ticks);
        }
        return x;
    }

    private static void winchWakes() {
        plain("THE WINCH");
        says("It is asleep, waking or awake.");
        winch("at first", winched("1 0 1", 2, 0), 0, 0, 2);
        winch("a tick", winched("1 0 1", 2, 1), 1, 1, 2);
        winch("2 ticks", winched("1 0 1", 2, 2), 2, 0, 1);
        winch("3 ticks", winched("1 0 1", 2, 3), 0, 0, 0);

        says("In each tick: if it is asleep and the lip is greater than SLACK, it is waking with WAKE ticks left;");
        winch("a lip of SLACK", winched("2 5 3", 5, 1), 0, 0, 5);
        winch("a lip of SLACK, for long", winched("2 5 3", 5, 50), 0, 0, 5);
        winch("a lip of SLACK and 1", winched("2 5 3", 6, 1), 1, 3, 6);
        winch("the other way, SLACK", winched("2 5 3", -5, 1), 0, 0, -5);
        winch("the other way, SLACK and 1", winched("2 5 3", -6, 1), 1, 3, -6);
        winch("SLACK 0 and no lip", winched("2 0 3", 0, 1), 0, 0, 0);
        winch("SLACK 0 and a lip of 1", winched("2 0 3", 1, 1), 1, 3, 1);
        winch("the greatest SLACK", winched("2 50 3", 50, 1), 0, 0, 50);
        winch("the greatest SLACK and 1", winched("2 50 3", 51, 1), 1, 3, 51);
        winch("the greatest WAKE", winched("2 5 20", 6, 1), 1, 20, 6);
        winch("a lip without a tick", winched("2 5 3", 20, 0), 0, 0, 20);

        says("if it was waking already, it has 1 tick less left (whatever the lip is by now);");
        winch("2 left", winched("2 5 3", 6, 2), 1, 2, 6);
        winch("1 left", winched("2 5 3", 6, 3), 1, 1, 6);
        winch("1 left of 20", winched("2 5 20", 6, 20), 1, 1, 6);
        FerryRamp small = winched("2 5 3", 6, 1);
        small.crank(-4);
        small.tick(1);
        winch("a lip of less than SLACK", small, 1, 2, 2);
        small.crank(-2);
        small.tick(1);
        winch("no lip", small, 1, 1, 0);
        small.crank(20);
        small.tick(1);
        winch("a greater lip", small, 2, 0, 18);

        says("if it is waking with 0 ticks left, it is awake.");
        winch("WAKE 0: in the same tick", winched("2 5 0", 9, 1), 2, 0, 7);
        winch("WAKE 1: not in the same tick", winched("2 5 1", 9, 1), 1, 1, 9);
        winch("WAKE 1: in the next tick", winched("2 5 1", 9, 2), 2, 0, 7);
        winch("WAKE 20: in the 20th tick behind", winched("2 5 20", 9, 21), 2, 0, 7);
    }

    private static void winchPulls() {
        says("If it is awake, END moves towards DECK by PULL, or by the lip if that is less;");
        int[] down = {10, 6, 2, 0, 0};
        for (int ticks = 0; ticks < down.length; ticks++) {
            counts("down, " + ticks + " ticks", winched("4 3 0", 10, ticks), 4, down[ticks]);
            counts("up, " + ticks + " ticks", winched("4 3 0", -10, ticks), 4, -down[ticks]);
        }
        counts("a lip of PULL", winched("4 3 0", 4, 1), 4, 0);
        counts("a lip of PULL and 1", winched("4 3 0", 5, 1), 4, 1);
        counts("a lip of PULL less 1", winched("4 2 0", 3, 1), 4, 0);
        counts("the least PULL", winched("1 0 0", 7, 3), 4, 4);
        counts("the greatest PULL", winched("20 0 0", 60, 2), 4, 20);
        counts("a lip of less than SLACK: it pulls on", winched("1 9 0", 10, 4), 4, 6);
        FerryRamp tide = played("tide 0 20 half 2; winch 10 0 0;", "tick;");
        counts("with the tide", tide, 4, 10);
        tide.tick(2);
        counts("and back", tide, 4, 10);

        says("if the lip is 0 then, it is asleep.");
        winch("a lip of PULL", winched("4 3 0", 4, 1), 0, 0, 0);
        winch("a lip of PULL and 1", winched("4 3 0", 5, 1), 2, 0, 1);
        winch("the rest", winched("4 3 0", 5, 2), 0, 0, 0);
        winch("asleep, the other way", winched("4 3 0", -8, 2), 0, 0, 0);
        FerryRamp waking = winched("4 3 1", 4, 1);
        waking.crank(-4);
        winch("waking without a lip", waking, 1, 1, 0);
        waking.tick(1);
        winch("awake without a lip", waking, 0, 0, 0);
        FerryRamp awake = winched("4 3 0", 5, 1);
        awake.crank(-1);
        winch("crank() leaves it awake", awake, 2, 0, 0);
        awake.tick(1);
        winch("until the tick", awake, 0, 0, 0);
        FerryRamp again = winched("4 3 0", 4, 1);
        again.crank(3);
        again.tick(1);
        winch("it asks for SLACK anew", again, 0, 0, 3);
    }

    private static void cars() {
        plain("CARS");
        says("Cars are numbered from 0 as they arrive;");
        FerryRamp x = ramp("car 3 7; car 0 8;");
        due("the cars of the setup", x.car(1, 1), 8);
        due("the next one", x.arrive(0, 9), 2);
        x.dismiss(2);
        x.wave(1);
        due("a number is not taken twice", x.arrive(0, 9), 3);
        due("the first one of a new object", new FerryRamp().arrive(1, 5), 0);

        says("there are at most 60.");
        FerryRamp many = new FerryRamp();
        for (int car = 0; car < 60; car++) {
            due("arrive()", many.arrive(0, 1), car);
            many.dismiss(car);
        }
        due("the 61st car", many.arrive(0, 1), -1);
        counts("60 cars", many, 3, 60);
        due("the last one is there", many.car(59, 2), 4);
        throwsIndex("no car behind it", () -> many.car(60, 2));

        says("A car has a kind (0 to 3) and a weight (1 to 999).");
        FerryRamp kinds = new FerryRamp();
        due("the least of both", kinds.arrive(0, 1), 0);
        due("the greatest of both", kinds.arrive(3, 999), 1);
        int[] want = {0, 1, 3, 999};
        for (int index = 0; index < 4; index++) {
            due("car(" + index / 2 + ", " + index % 2 + ")", kinds.car(index / 2, index % 2), want[index]);
        }
        throwsIndex("the kind 4", () -> kinds.arrive(4, 1));
        throwsIndex("the kind -1", () -> kinds.arrive(-1, 1));
        throwsArgument("the weight 0", () -> kinds.arrive(0, 0));
        throwsArgument("the weight 1000", () -> kinds.arrive(3, 1000));

        says("Each kind has STEEP, the greatest slope that it can drive on,");
        due("a slope of STEEP", ramp("quay 6; kind 2 6 0 1; car 2 1;").whyNot(0), 0);
        due("a slope of STEEP and 1", ramp("quay 7; kind 2 6 0 1; car 2 1;").whyNot(0), 6);
        due("another kind", ramp("quay 7; kind 2 6 0 1; car 1 1;").whyNot(0), 0);

        says("LIP, the greatest lip,");
        due("a lip of LIP", played("kind 2 500 4 1; car 2 1;", "crank 4;").whyNot(0), 0);
        due("a lip of LIP and 1", played("kind 2 500 4 1; car 2 1;", "crank -5;").whyNot(0), 7);
        due("another kind", played("kind 2 500 4 1; car 3 1;", "crank -5;").whyNot(0), 0);

        says("and a LENGTH.");
        due("a lane of LENGTH", ramp("lanes 9 load 9 list 9; kind 2 0 0 9; car 2 1;").whyNot(0), 0);
        due("a lane of LENGTH less 1", ramp("lanes 8 load 9 list 9; kind 2 0 0 9; car 2 1;").whyNot(0), 3);
        due("another kind", ramp("lanes 8 load 9 list 9; kind 2 0 0 9; car 3 1;").whyNot(0), 0);

        says("At most 20 cars wait in the queue.");
        FerryRamp queue = new FerryRamp();
        for (int car = 0; car < 20; car++) {
            due("arrive()", queue.arrive(0, 1), car);
        }
        due("the 21st car", queue.arrive(0, 1), -2);
        due("the last one of the queue", queue.queued(19), 19);
        queue.tick(1);
        due("a car on the ramp does not wait", queue.arrive(0, 1), 20);
        due("but the next one would", queue.arrive(0, 1), -2);
    }

    private static void lanes() {
        says("On deck are the lanes 0, 1 and 2, each LANE long;");
        for (int length : new int[] {1, 2, 30}) {
            FerryRamp x = ramp("lanes " + length + " load 9999 list 9999; deck 0 sink 999; cross 1 patience 50;");
            for (int lane = 0; lane < 3; lane++) {
                due("LANE " + length + ": what is free of the lane " + lane, x.lane(lane, true), length);
            }
            throwsIndex("the lane 3", () -> x.lane(3, true));
            throwsIndex("the lane -1", () -> x.lane(-1, true));
            for (int car = 0; car < Math.min(60, 3 * length + 1); car++) {
                x.arrive(0, 1);
                x.tick(1);
            }
            x.tick(1);
            counts("LANE " + length + ": as many cars as it holds", x, 2, Math.min(60, 3 * length));
        }
        FerryRamp full = ramp("lanes 30 load 9999 list 0; deck 0 sink 999; cross 1 patience 50;");
        for (int car = 0; car < 31; car++) {
            full.arrive(0, 1);
            full.tick(1);
        }
        full.tick(1);
        counts("30 cars in one lane", full, 2, 30);
        due("the 31st one: for its weight the lanes 0 and 2 do not suit", full.whyNot(30), 5);

        says("the cars of a lane stand in the order in which they began to drive.");
        FerryRamp x = played("lanes 9 load 99 list 0; cross 1 patience 50; car 0 1; car 0 2; car 0 3;", "wave 2; tick 4;");
        int[] stand = {2, 0, 1, NONE};
        for (int index = 0; index < stand.length; index++) {
            due("standing(1, " + index + ")", x.standing(1, index), stand[index]);
        }
        x.unload(1);
        x.arrive(0, 4);
        x.tick(2);
        due("behind the others", x.standing(1, 2), 3);
    }

    /** Each lane, LANE long, holds a car of the kind 1; the cars 3 (kind 2) and 4 (kind 3) wait. */
    private static FerryRamp taken(int lane, int list) {
        return played("lanes " + lane + " load 9999 list " + list + "; cross 1 patience 50; car 1 10; car 1 10; car 1 10;",
            "tick 4; car 2 10; car 3 10;");
    }

    private static void suits() {
        says("A lane suits a car if what is free of it is at least the LENGTH of the car,");
        due("LENGTH 4 of 4", ramp("lanes 4 load 9 list 9; car 3 1;").laneFor(0), 0);
        due("LENGTH 4 of 3", ramp("lanes 3 load 9 list 9; car 3 1;").laneFor(0), NONE);
        due("LENGTH 3, 3 are free", taken(5, 99).laneFor(3), 0);
        due("LENGTH 4, 3 are free", taken(5, 99).laneFor(4), NONE);
        due("LENGTH 4, 4 are free", taken(6, 99).laneFor(4), 0);

        says("and if the weights of the lanes 0 and 2 would then differ by at most LIST (asked for the lane 1, too).");
        FerryRamp list = ramp("lanes 9 load 99 list 10; car 0 10; car 0 11;");
        due("LIST", list.laneFor(0), 0);
        due("LIST and 1: the lane 1", list.laneFor(1), 1);
        due("LIST 0: the lane 1", ramp("lanes 9 load 99 list 0; car 0 1;").laneFor(0), 1);
        due("the greatest LIST", ramp("lanes 9 load 99 list 9999; car 0 999;").laneFor(0), 0);
        int[][] right = {{39, NONE}, {40, 0}, {120, 0}, {121, NONE}};
        for (int[] car : right) {
            FerryRamp x = leaning();
            x.arrive(0, car[0]);
            due("the sides weigh 40 and 120, a car of " + car[0], x.laneFor(5), car[1]);
        }
        int[][] left = {{39, NONE}, {40, 2}, {120, 2}, {121, NONE}};
        for (int[] car : left) {
            FerryRamp x = played("lanes 30 load 9999 list 40; deck 0 sink 999; cross 1 patience 50; car 0 100; car 0 40;"
                + "car 0 40; car 0 40;", "tick 5; unload 2;");
            due("the sides are apart", x.list(), 80);
            x.arrive(0, car[0]);
            due("the sides weigh 80 and 0, a car of " + car[0], x.laneFor(4), car[1]);
        }

        says("The weight of a lane, and what is free of it, count the car on the ramp, too, if it drives there.");
        FerryRamp x = played("car 2 30; car 0 5;", "tick;");
        int[] want = {30, 7, 0, 10, 0, 10};
        for (int index = 0; index < want.length; index++) {
            due("lane(" + index / 2 + ", " + (index % 2 == 1) + ")", x.lane(index / 2, index % 2 == 1), want[index]);
        }
        due("the lane for the next one", x.laneFor(1), 1);
        FerryRamp narrow = played("lanes 4 load 999 list 999; cross 1 patience 50; car 0 50; car 0 60; car 3 1;", "tick 3; car 0 1;");
        due("nothing is free of the lightest lane", narrow.laneFor(3), 0);

        says("The lane for a car is, of those that suit, the one with the least weight,");
        due("10, 30, 20", lightest(10, 30, 20), 0);
        due("30, 10, 20", lightest(30, 10, 20), 1);
        due("30, 20, 10", lightest(30, 20, 10), 2);
        FerryRamp other = leaning();
        other.arrive(0, 100);
        due("the lane 1 weighs 100 and does not suit", other.laneFor(5), 0);

        says("of several the lowest.");
        due("10, 10, 10", lightest(10, 10, 10), 0);
        due("30, 10, 10", lightest(30, 10, 10), 1);
        due("10, 30, 10", lightest(10, 30, 10), 0);
        due("10, 10, 30", lightest(10, 10, 30), 0);
        due("no weights", ramp("car 0 1;").laneFor(0), 0);
    }

    /** The lane for a car that comes to lanes with these weights; the third of them counts from the ramp. */
    private static int lightest(int first, int second, int third) {
        FerryRamp x = played("cross 1 patience 50; car 0 " + first + "; car 0 " + second + "; car 0 " + third + ";",
            "tick 3; car 0 1;");
        due("the weight of the lane 2", x.lane(2, false), third);
        return x.laneFor(3);
    }

    private static int whyNot(String setup, String script, int car) {
        return played(setup, script).whyNot(car);
    }

    private static void reasons() {
        says("1 the gate is closed;");
        due("a closed gate", whyNot("car 0 1;", "gate closed;", 0), 1);
        due("an open gate", whyNot("car 0 1;", "gate closed; gate open;", 0), 0);

        says("2 a car is on the ramp;");
        due("on the ramp", whyNot("car 0 1; car 0 1;", "tick;", 1), 2);
        due("still on the ramp", whyNot("car 0 1; car 0 1;", "tick 3;", 1), 2);
        due("on deck", whyNot("car 0 1;", "tick 4; car 0 1;", 1), 0);

        says("3 no lane has LENGTH free;");
        due("LENGTH 4 of 3", whyNot("lanes 3 load 9 list 9; car 3 1;", "", 0), 3);
        due("LENGTH 4 of 4", whyNot("lanes 4 load 9 list 9; car 3 1;", "", 0), 0);
        due("3 are free of all", taken(5, 99).whyNot(4), 3);
        due("3 are free of all", taken(5, 99).whyNot(3), 0);
        String lanes = "lanes 5 load 99 list 99; cross 1 patience 50;";
        due("only the lane 0 has 3 free", whyNot(lanes + "car 1 10; car 2 10; car 2 10;", "tick 4; car 2 1;", 3), 0);
        due("only the lane 1 has 3 free", whyNot(lanes + "car 2 10; car 1 10; car 2 10;", "tick 4; car 2 1;", 3), 0);
        due("only the lane 2 has 3 free", whyNot(lanes + "car 2 10; car 2 10; car 1 10;", "tick 4; car 2 1;", 3), 0);
        due("none has 3 free", whyNot(lanes + "car 2 10; car 2 10; car 2 10;", "tick 4; car 2 1;", 3), 3);

        says("4 the load would be greater than LOAD;");
        due("LOAD", whyNot("lanes 9 load 100 list 999; car 0 100;", "", 0), 0);
        due("LOAD and 1", whyNot("lanes 9 load 100 list 999; car 0 101;", "", 0), 4);
        due("LOAD with what is on deck", whyNot("lanes 9 load 100 list 999; car 0 60;", "tick 4; car 0 40;", 1), 0);
        due("LOAD and 1 with what is on deck", whyNot("lanes 9 load 100 list 999; car 0 60;", "tick 4; car 0 41;", 1), 4);
        due("what was unloaded", whyNot("lanes 9 load 100 list 999; car 0 60;", "tick 4; unload 0; car 0 100;", 1), 0);

        says("5 no lane suits;");
        int[][] leaning = {{39, 5}, {40, 0}, {120, 0}, {121, 5}};
        for (int[] car : leaning) {
            FerryRamp x = leaning();
            x.arrive(0, car[0]);
            due("the sides weigh 40 and 120, a car of " + car[0], x.whyNot(5), car[1]);
        }

        says("6 the slope is greater than its STEEP;");
        due("STEEP", whyNot("quay 9; kind 0 9 0 1; car 0 1;", "", 0), 0);
        due("STEEP and 1", whyNot("quay 10; kind 0 9 0 1; car 0 1;", "", 0), 6);
        due("STEEP and 1 below", whyNot("quay -10; kind 0 9 0 1; car 0 1;", "", 0), 6);
        due("STEEP 0", whyNot("kind 0 0 0 1; car 0 1;", "", 0), 0);
        due("STEEP 0 and a slope of 1", whyNot("quay 1; kind 0 0 0 1; car 0 1;", "", 0), 6);
        due("the greatest STEEP", whyNot("quay 500; kind 0 500 0 1; car 0 1;", "", 0), 0);

        says("7 the lip is greater than its LIP.");
        due("LIP", whyNot("kind 0 500 9 1; car 0 1;", "crank 9;", 0), 0);
        due("LIP and 1", whyNot("kind 0 500 9 1; car 0 1;", "crank 10;", 0), 7);
        due("LIP and 1 below", whyNot("kind 0 500 9 1; car 0 1;", "crank -10;", 0), 7);
        due("LIP 0", whyNot("kind 0 500 0 1; car 0 1;", "crank 1; crank -1;", 0), 0);
        due("LIP 0 and a lip of 1", whyNot("kind 0 500 0 1; car 0 1;", "crank 1;", 0), 7);
        due("the greatest LIP", whyNot("kind 0 500 99 1; car 0 1;", "crank 20; crank 20; crank 20; crank 20; crank 19;", 0), 0);

        says("0: it can.");
        due("a car of a new object", whyNot("", "car 3 999;", 0), 0);
    }

    private static void reasonsInTheirOrder() {
        says("A car that would be the first one of the queue cannot begin to drive, for the first of these reasons that applies:");
        String setup = "tide 0 1 half 1; quay 1; lanes 3 load 10 list 5; kind 3 0 0 9; car 0 5; car 3 999;";
        due("all but the gate", whyNot(setup, "tick;", 1), 2);
        due("all", whyNot(setup, "tick; gate closed;", 1), 1);
        due("all but the gate and the ramp", whyNot(setup, "tick; dismiss 1; tick 4; car 3 999;", 2), 3);
        FerryRamp x = played("lanes 8 load 300 list 40; deck 0 sink 999; kind 1 9 5 7; kind 3 9 5 8; cross 1 patience 50;"
            + "car 0 100; car 0 40; car 0 40; car 0 40; car 0 80;", "tick 6; unload 0; car 3 999; car 1 200; car 1 39; car 1 40; crank 20;");
        due("from 3 on", x.whyNot(5), 3);
        due("from 4 on", x.whyNot(6), 4);
        due("from 5 on", x.whyNot(7), 5);
        due("from 6 on", x.whyNot(8), 6);
        x.crank(-12);
        due("7 alone", x.whyNot(8), 7);
        due("5 and 7", x.whyNot(7), 5);
        x.crank(-8);
        due("none", x.whyNot(8), 0);
        due("5 alone", x.whyNot(7), 5);
        due("4 and 5", x.whyNot(6), 4);
        FerryRamp queue = played("kind 1 0 0 9; lanes 8 load 99 list 99; car 1 5; car 0 5; car 0 5;", "");
        due("the first one", queue.whyNot(0), 3);
        due("as if it was the first one", queue.whyNot(2), 0);
    }

    private static void driving() {
        says("A car that begins to drive leaves the queue and is on the ramp, for its lane.");
        FerryRamp x = played("lanes 9 load 99 list 10; car 0 11; car 0 5;", "tick;");
        counts("the queue", x, 1, 1);
        due("the first one of the queue", x.queued(0), 1);
        due("the one behind it", x.queued(1), NONE);
        counts("the ramp", x, 8, 0);
        due("it is on the ramp", x.car(0, 2), 1);
        due("its lane", x.car(0, 3), 1);
        due("it does not stand there", x.standing(1, 0), NONE);

        says("In each tick behind that, it drives if the slope is at most its STEEP and the lip at most its LIP;");
        String lip = "tide 0 10 half 10; winch 20 50 0; cross 20 patience 50; car 0 5; kind 0 500 ";
        counts("a lip of LIP", played(lip + "2 1;", "tick 2;"), 9, 1);
        counts("a lip of LIP and 1", played(lip + "1 1;", "tick 2;"), 9, 0);
        String steep = "tide 0 10 half 10; winch 20 0 0; cross 20 patience 50; car 0 5; kind 0 ";
        counts("a slope of STEEP", played(steep + "2 0 1;", "tick 2;"), 9, 1);
        counts("a slope of STEEP and 1", played(steep + "1 0 1;", "tick 2;"), 9, 0);
        counts("in each tick", played("cross 20 patience 50; car 0 5;", "tick 20;"), 9, 19);
        String quay = "quay 5; tide 0 10 half 10; winch 20 0 0; cross 20 patience 50; car 0 5; kind 0 4 0 1;";
        counts("slopes of 3, 0 and 4 again", played(quay, "tick 9;"), 9, 8);
        counts("and of 5", played(quay, "tick 10;"), 9, 8);

        says("otherwise it stands still.");
        counts("a lip of LIP", played(lip + "2 1;", "tick 2;"), 10, 0);
        counts("a lip of LIP and 1", played(lip + "1 1;", "tick 2;"), 10, 1);
        counts("a slope of STEEP", played(steep + "2 0 1;", "tick 2;"), 10, 0);
        counts("a slope of STEEP and 1", played(steep + "1 0 1;", "tick 2;"), 10, 1);
        FerryRamp again = played(lip + "1 1;", "tick 18;");
        counts("17 ticks too great", again, 10, 17);
        counts("it stands", again, 9, 0);
        again.tick(1);
        counts("it drives on", again, 9, 1);
        counts("it stood before", again, 10, 17);

        says("When it has driven in CROSS ticks it is on deck.");
        for (int cross : new int[] {1, 2, 20}) {
            FerryRamp y = played("cross " + cross + " patience 50; car 0 5;", "tick " + cross + ";");
            counts("CROSS " + cross + ", a tick less", y, 2, 0);
            counts("CROSS " + cross + ", a tick less", y, 9, cross - 1);
            due("on the ramp", y.car(0, 2), 1);
            y.tick(1);
            counts("CROSS " + cross, y, 2, 1);
            counts("CROSS " + cross, y, 8, NONE);
            due("on deck", y.car(0, 2), 2);
            due("it came there then", y.car(0, 6), cross + 1);
        }
        FerryRamp stood = played("tide 0 10 half 10; winch 20 50 0; cross 2 patience 50; car 0 5; kind 0 500 1 1;", "tick 19;");
        counts("the ticks in which it stood do not count", stood, 2, 0);
        stood.tick(1);
        counts("it drove in 2 ticks", stood, 2, 1);
    }

    private static void steps() {
        plain("A TICK");
        says("These steps follow one another: (1) TIME grows by 1.");
        FerryRamp first = played("tide 0 10 half 1; winch 10 0 0;", "tick;");
        counts("one tick", first, 0, 1);
        counts("the winch pulls to the new DECK", first, 4, 10);
        due("a car begins at the new TIME", played("car 0 1;", "tick;").car(0, 5), 1);

        says("(2) The winch does what it does.");
        FerryRamp pulled = played("tide 0 10 half 1; winch 10 0 0; kind 0 500 0 1; cross 1 patience 50; car 0 5; car 0 6;", "tick;");
        counts("it pulls ahead of the car that begins", pulled, 8, 0);
        pulled.tick(1);
        counts("and ahead of the car that drives", pulled, 2, 1);
        counts("which did not stand", pulled, 10, 0);
        counts("in each tick", played("winch 1 0 0;", "crank 9; tick 5;"), 4, 4);

        says("(3) The car on the ramp drives or stands still.");
        pulled.tick(1);
        counts("it drives", pulled, 2, 2);
        FerryRamp still = played("tide 0 10 half 1; winch 10 50 0; kind 0 500 0 1; cross 1 patience 50;", "tick; car 0 5; tick;");
        counts("it begins at low water", still, 8, 0);
        still.tick(1);
        counts("it stands still at high water", still, 10, 1);
        counts("without a car none stands", played("tide 0 99 half 9;", "tick 9;"), 10, 0);
    }

    private static void queueInATick() {
        says("(4) If the ramp is free and the queue is not empty:");
        FerryRamp next = played("cross 1 patience 50; car 0 5; car 0 6;", "tick;");
        counts("the ramp is not free", next, 8, 0);
        next.tick(1);
        counts("free in this very tick", next, 8, 1);
        FerryRamp sunk = played("deck 50 sink 1; winch 1 50 0; kind 0 500 4 1; cross 1 patience 50; car 0 5; car 0 6;", "tick 2;");
        counts("the deck has sunk already", sunk, 8, NONE);
        counts("so that it waits", sunk, 11, 1);
        counts("a car on the ramp: none waits", played("cross 20 patience 50; car 0 5; car 0 6;", "tick 15;"), 11, 0);
        counts("an empty queue: none waits", played("quay 300;", "tick 9;"), 11, 0);

        says("if its first car can begin, it does,");
        counts("it can", played("car 0 5; car 0 6;", "tick;"), 8, 0);
        counts("the first one", played("car 0 5; car 0 6;", "wave 1; tick;"), 8, 1);
        counts("it cannot, the next one could", played("quay 9; kind 1 8 9 1; car 1 5; car 0 6;", "tick;"), 8, NONE);

        says("and PATIENCE begins anew;");
        FerryRamp anew = played("quay 9; kind 1 8 9 1; cross 1 patience 3; car 1 5; car 0 6;", "tick 2; wave 1; tick;");
        counts("as a car begins", anew, 8, 1);
        counts("WAITING", anew, 11, 0);
        anew.tick(2);
        counts("2 ticks behind that", anew, 12, 0);
        anew.tick(1);
        counts("3 ticks behind that", anew, 12, 1);

        says("otherwise, unless the reason is 1, WAITING grows by 1,");
        String patient = "cross 1 patience 50;";
        counts("the reason 1", played("car 0 5;" + patient, "gate closed; tick 4;"), 11, 0);
        counts("the reason 3", played("lanes 3 load 9 list 9; car 3 1;" + patient, "tick 4;"), 11, 4);
        counts("the reason 4", played("lanes 3 load 9 list 9; car 0 10;" + patient, "tick 4;"), 11, 4);
        FerryRamp leaning = leaning();
        leaning.arrive(0, 39);
        leaning.tick(4);
        counts("the reason 5", leaning, 11, 4);
        counts("the reason 6", played("quay 101; car 0 1;" + patient, "tick 4;"), 11, 4);
        counts("the reason 7", played("winch 1 50 0; car 0 1;" + patient, "crank 11; tick 4;"), 11, 4);

        says("and if WAITING is PATIENCE then, the crew is called.");
        for (int patience : new int[] {1, 2, 50}) {
            FerryRamp x = ramp("quay 101; cross 1 patience " + patience + "; car 0 1;");
            for (int tick = 1; tick < patience; tick++) {
                x.tick(1);
            }
            counts("PATIENCE " + patience + ", a tick less", x, 12, 0);
            counts("PATIENCE " + patience + ", a tick less", x, 11, patience - 1);
            x.tick(1);
            counts("PATIENCE " + patience, x, 12, 1);
        }

        says("Otherwise WAITING stays, also when wave() or dismiss() makes another car the first one.");
        FerryRamp stays = played("quay 101; cross 3 patience 50; kind 1 200 99 1; car 0 1; car 0 2; car 0 3; car 0 4;", "tick 3;");
        stays.setGate(false);
        stays.tick(5);
        counts("the gate is closed", stays, 11, 3);
        stays.setGate(true);
        stays.wave(2);
        counts("behind wave()", stays, 11, 3);
        stays.tick(1);
        counts("and a tick", stays, 11, 4);
        stays.dismiss(2);
        counts("behind dismiss()", stays, 11, 4);
        stays.tick(1);
        counts("and a tick", stays, 11, 5);
        stays.dismiss(0);
        stays.dismiss(1);
        stays.dismiss(3);
        stays.tick(5);
        counts("the queue is empty", stays, 11, 5);
        stays.arrive(0, 9);
        stays.tick(1);
        counts("a new car", stays, 11, 6);
    }

    private static void crew() {
        says("When the crew is called, it looks at the other cars of the queue in their order:");
        String setup = "quay 50; kind 0 9 9 1; kind 1 99 9 1; kind 2 99 9 9; lanes 8 load 999 list 999; cross 1 patience 1;";
        counts("the first that could", played(setup + "car 0 5; car 1 6; car 1 7;", "tick;"), 8, 1);
        counts("another order", played(setup + "car 0 5; car 1 6; car 1 7;", "wave 2; wave 0; tick;"), 8, 2);
        counts("the last one of 20", played(setup + "car 0 5; car 0 6; car 0 5; car 0 6; car 0 5; car 0 6; car 0 5; car 0 6; car 0 5;"
            + "car 0 6; car 0 5; car 0 6; car 0 5; car 0 6; car 0 5; car 0 6; car 0 5; car 0 6; car 0 5; car 1 6;", "tick;"), 8, 19);

        says("the first one that could begin, if it was the first one, begins to drive.");
        FerryRamp x = played(setup + "car 0 5; car 0 6; car 2 7; car 1 8; car 1 9;", "tick;");
        counts("for its slope or its length others cannot", x, 8, 3);
        due("it left the queue", x.queued(2), 2);
        due("and the others closed up", x.queued(3), 4);
        due("as many as wait", x.queued(4), NONE);
        due("on the ramp", x.car(3, 2), 1);
        due("began", x.car(3, 5), 1);
        due("its lane", x.car(3, 3), 0);
        counts("none could", played(setup + "car 0 5; car 0 6;", "tick 9;"), 8, NONE);
        counts("none but the first one", played(setup + "car 0 5;", "tick 9;"), 12, 9);

        says("The call is kept, also if no car begins (the latest 20 are),");
        FerryRamp kept = played(setup + "car 0 5; car 1 6;", "tick;");
        due("a car began", kept.call(0, 3), 1);
        kept.tick(1);
        due("no car began", kept.call(0, 3), NONE);
        due("the one ahead of it", kept.call(1, 3), 1);
        kept.tick(18);
        due("20 calls: the first of all", kept.call(19, 0), 1);
        kept.tick(1);
        due("21 calls: the second of all", kept.call(19, 0), 2);
        throwsIndex("21 calls: no more", () -> kept.call(20, 0));
        kept.tick(39);
        due("60 calls", kept.call(19, 0), 41);
        due("60 calls", kept.call(0, 0), 60);

        says("and WAITING is 0.");
        FerryRamp waiting = played("quay 50; kind 0 9 9 1; cross 1 patience 3; car 0 5; car 0 6;", "tick 3;");
        counts("no car began", waiting, 11, 0);
        counts("a car began", played("quay 50; kind 0 9 9 1; cross 1 patience 3; car 0 5; car 1 6;", "tick 3;"), 11, 0);
        waiting.tick(2);
        counts("it grows anew", waiting, 11, 2);
        counts("it grows anew", waiting, 12, 1);
        waiting.tick(1);
        counts("the next call", waiting, 12, 2);

        says("PATIENCE begins anew: WAITING is 0.");
        FerryRamp anew = played("quay 9; kind 1 8 9 1; cross 1 patience 9; car 1 5; car 0 6;", "tick 8;");
        counts("8 ticks", anew, 11, 8);
        anew.wave(1);
        anew.tick(1);
        counts("a car begins", anew, 11, 0);

        says("A car that begins to drive in a tick does not drive in this tick yet.");
        FerryRamp yet = played("cross 1 patience 50; quay 7; car 0 5;", "tick;");
        counts("driven in", yet, 9, 0);
        counts("on deck", yet, 2, 0);
        counts("the slope driven on", yet, 15, 0);
        FerryRamp called = played(setup + "car 0 5; car 1 6;", "tick;");
        counts("one that the crew lets begin", called, 8, 1);
        counts("one that the crew lets begin", called, 9, 0);
        called.tick(1);
        counts("the next tick", called, 2, 1);
    }

    private static void acts() {
        plain("ACTS");
        says("Acts are the methods from tick() to setCross().");
        for (int act = 0; act < DONE.length; act++) {
            FerryRamp x = ready();
            due(NAMES[act] + " is done", DONE[act].on(x) < 0 ? 1 : 0, 0);
            due(NAMES[act] + ": acts that were done", x.account(0), 4);
            due(NAMES[act] + ": acts that can be undone", x.count(17), 4);
            String state = Look.state(ready());
            due(NAMES[act] + " changes something", Look.state(x).equals(state) ? 1 : 0, 0);
            due(NAMES[act] + ": undo()", x.undo(), 3);
            same(NAMES[act] + " was undone", Look.state(x), state);
        }
        Look.Use[] others = {x -> x.appendText(7), x -> x.truncateText(0), x -> x.play(), x -> x.writeLanes(), x -> x.save(0),
            x -> x.startIn(), x -> x.boardIn(9), x -> x.bestFirst(9)};
        for (Look.Use other : others) {
            FerryRamp x = ready();
            other.on(x);
            due("no act", x.account(0), 3);
            due("nothing to undo", x.count(17), 3);
        }
        FerryRamp x = ready();
        x.undo();
        x.save(0);
        x.restore(0);
        x.load();
        due("undo(), restore() and load() are no acts", x.account(0), 3);

        says("An act is done, or refused with a reason (the first one that applies of those named at the method);");
        FerryRamp full = new FerryRamp();
        for (int car = 0; car < 60; car++) {
            full.arrive(0, 1);
            if (car < 40) {
                full.dismiss(car);
            }
        }
        counts("60 cars, 20 of them wait", full, 1, 20);
        due("arrive(): 1 ahead of 2", full.arrive(0, 1), -1);
        FerryRamp busy = played("car 0 1;", "tick;");
        due("crank(): 1 ahead of 2", busy.crank(0), -1);
        due("crank(): 2", busy.crank(1), -2);
        due("unload(): 1 ahead of 2", busy.unload(0), -1);
        String setup = "winch 1 50 0; cross 1 patience 50; car 0 1; kind 0 ";
        FerryRamp ahead = played(setup + "0 0 1;", "tick 2; crank 1; car 1 1; tick;");
        counts("a car on the ramp, a slope and a lip of 1", ahead, 8, 1);
        due("unload(): 2 ahead of 3 and 4", ahead.unload(0), -2);
        ahead.tick(1);
        due("unload(): 3 ahead of 4", ahead.unload(0), -3);
        due("unload(): 4", played(setup + "1 0 1;", "tick 2; crank 1;").unload(0), -4);
    }

    private static void refusals() {
        says("what is refused changes nothing but the accounts.");
        refused("car 0 1; car 0 2;", "tick;", "wave(0)", 1, x -> x.wave(0));
        refused("car 0 1; car 0 2;", "tick;", "wave(1)", 2, x -> x.wave(1));
        refused("car 0 1; car 0 2;", "tick;", "dismiss(0)", 1, x -> x.dismiss(0));
        refused("car 0 1; car 0 2;", "tick;", "unload(0)", 1, x -> x.unload(0));
        refused("car 0 1; car 0 2;", "tick 4;", "unload(0)", 2, x -> x.unload(0));
        refused("car 0 1; kind 0 0 9 1;", "tick 4; crank 1;", "unload(0)", 3, x -> x.unload(0));
        refused("car 0 1; kind 0 9 0 1;", "tick 4; crank 1;", "unload(0)", 4, x -> x.unload(0));
        refused("car 0 1; car 0 2;", "tick;", "setGate(true)", 1, x -> x.setGate(true));
        refused("car 0 1; car 0 2;", "gate closed;", "setGate(false)", 1, x -> x.setGate(false));
        refused("car 0 1; car 0 2;", "gate closed;", "crank(0)", 1, x -> x.crank(0));
        refused("car 0 1; car 0 2;", "tick;", "crank(1)", 2, x -> x.crank(1));
        String twenty = "car 0 1; car 0 1; car 0 1; car 0 1; car 0 1; car 0 1; car 0 1; car 0 1; car 0 1; car 0 1;";
        refused(twenty + twenty, "gate closed;", "arrive(0, 1)", 2, x -> x.arrive(0, 1));
        FerryRamp full = new FerryRamp();
        for (int car = 0; car < 60; car++) {
            full.arrive(0, 1);
            full.dismiss(car);
        }
        String before = Look.state(full);
        due("arrive() of the 61st car", full.arrive(0, 1), -1);
        same("it changes something", Look.state(full), before);
        due("its account", full.account(1), 1);
        counts("no act is lost", full, 17, 8);
        full.undo();
        due("the latest act that was done is undone", full.car(59, 2), 0);
    }

    private static void undoable() {
        says("The latest 8 acts that were done can be undone.");
        FerryRamp x = new FerryRamp();
        for (int act = 1; act <= 8; act++) {
            x.tick(1);
            counts(act + " acts", x, 17, act);
        }
        x.tick(1);
        x.setGate(true);
        counts("9 acts and one that was refused", x, 17, 8);
        for (int left = 7; left >= 0; left--) {
            due("undo()", x.undo(), left);
            counts("undone", x, 0, left + 1);
        }
        due("the first of the 9 acts", x.undo(), NONE);
        counts("it stays done", x, 0, 1);
    }

    private static void exceptions() {
        plain("EXCEPTIONS");
        says("A method that throws an exception changes nothing.");
        argument("truncateText(9)", x -> x.truncateText(9));
        argument("tick(51)", x -> x.tick(51));
        index("arrive(4, 1)", x -> x.arrive(4, 1));
        argument("arrive(0, 1000)", x -> x.arrive(0, 1000));
        index("wave(60)", x -> x.wave(60));
        index("dismiss(60)", x -> x.dismiss(60));
        index("unload(3)", x -> x.unload(3));
        argument("crank(21)", x -> x.crank(21));
        argument("setWinch(20, 50, 21)", x -> x.setWinch(20, 50, 21));
        argument("setCross(20, 51)", x -> x.setCross(20, 51));
        argument("save(2)", x -> x.save(2));
        argument("restore(2)", x -> x.restore(2));

        says("If several exceptions apply, the one that comes first in the method's list of exceptions is thrown.");
        index("kind(4, 3)", x -> x.kind(4, 3));
        index("kind(-1, -1)", x -> x.kind(-1, -1));
        index("car(9, 7)", x -> x.car(9, 7));
        index("car(-1, -1)", x -> x.car(-1, -1));
        index("call(4, 4)", x -> x.call(4, 4));
        index("call(-1, -1)", x -> x.call(-1, -1));
        index("arrive(4, 0)", x -> x.arrive(4, 0));
        index("arrive(-1, 1000)", x -> x.arrive(-1, 1000));
        throwsArgument("restore(2) with nothing saved", () -> new FerryRamp().restore(2));
        throwsArgument("restore(-1) with nothing saved", () -> new FerryRamp().restore(-1));

        says("Exceptions come ahead of reasons.");
        FerryRamp x = new FerryRamp();
        for (int car = 0; car < 60; car++) {
            x.arrive(0, 1);
            x.dismiss(car);
        }
        throwsIndex("arrive(4, 1) of 60 cars", () -> x.arrive(4, 1));
        throwsArgument("arrive(0, 0) of 60 cars", () -> x.arrive(0, 0));
        throwsIndex("wave(60), which is not in the queue", () -> x.wave(60));
        throwsIndex("dismiss(-1), which is not in the queue", () -> x.dismiss(-1));
        throwsIndex("unload(3), where no car stands", () -> x.unload(3));
        FerryRamp ramp = played("car 0 1;", "tick;");
        throwsArgument("crank(21) with a car on the ramp", () -> ramp.crank(21));
        due("no refusal counts", x.account(1) + x.account(2) + ramp.account(2), 0);
    }

    private static void headings() {
        says("The constants: `NONE = -1`: There is none.");
        due("NONE", FerryRamp.NONE, -1);
        plain("Ahead of the calls `appendText`, `truncateText`, `load`, `play`, `errorCode`, `errorPosition` the interface says:"
            + " ---- texts.");
        plain("Ahead of the calls `count`, `setting`, `kind`, `car`, `queued`, `standing`, `lane`, `call`, `account` the interface"
            + " says: ---- what there is.");
        plain("Ahead of the calls `tide`, `deck`, `slope`, `lip`, `waterIn`, `list`, `heaviest` the interface says: ---- heights.");
        says("Ahead of the calls `whyNot`, `laneFor`, `startIn`, `boardIn`, `wakesIn`, `easyIn`, `bestFirst`, `meanWait`,"
            + " `fullness` the interface says: ---- what would be (nothing changes).");
        changesNothing("whyNot()", x -> x.whyNot(1));
        changesNothing("laneFor()", x -> x.laneFor(1));
        changesNothing("startIn()", x -> x.startIn());
        changesNothing("boardIn(200)", x -> x.boardIn(200));
        changesNothing("wakesIn()", x -> x.wakesIn());
        changesNothing("easyIn(2)", x -> x.easyIn(2));
        changesNothing("bestFirst(99)", x -> x.bestFirst(99));
        changesNothing("meanWait()", x -> x.meanWait());
        changesNothing("fullness()", x -> x.fullness());
        says("Ahead of the calls `tick`, `arrive`, `wave`, `dismiss`, `unload`, `setGate`, `crank`, `setWinch`, `setCross` the"
            + " interface says: ---- acts: a number as told, or minus the reason.");
        int[] told = {0, 3, 1, 1, 0, 0, 4, 0, 0};
        for (int act = 0; act < DONE.length; act++) {
            due(NAMES[act] + " as told", DONE[act].on(ready()), told[act]);
        }
        due("minus the reason", ready().wave(59), -1);
        plain("Ahead of the calls `writeLanes`, `output` the interface says: ---- output.");
        plain("Ahead of the calls `undo`, `save`, `restore` the interface says: ---- undo, saved states.");
    }
}
