/** The sentences of the promises 17 to 23: heights, the list and the heaviest car. */
final class HeightSentences extends Sentences {
    static void run() {
        section("Promise 17");
        tide();
        section("Promise 18");
        deck();
        section("Promise 19");
        slope();
        section("Promise 20");
        lip();
        section("Promise 21");
        waterIn();
        section("Promise 22");
        list();
        section("Promise 23");
        heaviest();
    }

    private static void tide() {
        says("- `time`: a time, 0 at least");
        FerryRamp x = ramp("tide -6 9 half 5;");
        due("the time 0", x.tide(0), -6);
        due("the time 1", x.tide(1), -3);
        due("the greatest time, p is 7", x.tide(MAX), 3);

        says("Returns the tide then.");
        int[] want = {-6, -3, 0, 3, 6, 9, 6, 3, 0, -3, -6, -3};
        for (int time = 0; time < want.length; time++) {
            due("tide(" + time + ")", x.tide(time), want[time]);
        }
        x.tick(3);
        due("whatever TIME is", x.tide(1), -3);
        x.arrive(0, 500);
        x.tick(4);
        due("whatever the load is", x.tide(1), -3);
        due("whatever FREE is", ramp("tide 5 5 half 1; deck 300 sink 1;").tide(0), 5);

        says("Throws `IllegalArgumentException` if time is less than 0");
        argument("tide(-1)", y -> y.tide(-1));
        argument("tide(MIN)", y -> y.tide(MIN));
    }

    private static void deck() {
        says("- `time`: a time, 0 at least");
        FerryRamp x = ramp("tide -6 9 half 5; deck 7 sink 10; car 0 25;");
        due("the time 0", x.deck(0), 1);
        due("the time 1", x.deck(1), 4);
        due("the greatest time", x.deck(MAX), 10);

        says("Returns DECK then, if the load is as it is now.");
        FerryRamp loaded = played("tide 0 9 half 9; deck 7 sink 10; winch 1 50 0; kind 0 500 99 1; cross 1 patience 50; car 0 25;",
            "tick 2;");
        due("a time that is past", loaded.deck(0), 5);
        due("now", loaded.deck(2), 7);
        due("a time to come", loaded.deck(9), 14);
        due("without the load", loaded.unload(0), 0);
        due("now", loaded.deck(2), 9);
        FerryRamp ramp = played("deck 7 sink 10; car 0 25;", "tick 3;");
        due("a car that will be on deck then", ramp.deck(9), 7);
        ramp.tick(1);
        due("and that is there", ramp.deck(9), 5);

        says("Throws `IllegalArgumentException` if time is less than 0");
        argument("deck(-1)", y -> y.deck(-1));
        argument("deck(MIN)", y -> y.deck(MIN));
    }

    private static void slope() {
        says("Returns the slope.");
        due("0", new FerryRamp().slope(), 0);
        due("END below QUAY", ramp("quay 500; tide -500 500 half 9;").slope(), 1000);
        due("END above QUAY", ramp("quay -500; tide 500 500 half 9;").slope(), 1000);
        FerryRamp x = played("quay 3;", "crank 2;");
        due("cranked", x.slope(), 1);
        x.crank(3);
        due("beyond QUAY", x.slope(), 2);
        due("with the tide", played("tide 0 9 half 9; winch 1 0 0; quay 3;", "tick 2;").slope(), 1);
        due("the load does not count", played("deck 9 sink 1; winch 1 50 0; quay 9; kind 0 0 99 1; car 0 9;", "tick 4;").slope(), 0);
    }

    private static void lip() {
        says("Returns the lip.");
        due("0", new FerryRamp().lip(), 0);
        FerryRamp x = played("", "crank 9; crank 9;");
        due("cranked", x.lip(), 18);
        x.crank(-20);
        due("the other way", x.lip(), 2);
        due("with the tide", played("tide 0 9 half 9; winch 1 50 0;", "tick 4;").lip(), 4);
        FerryRamp sunk = played("deck 9 sink 1; winch 1 50 0; kind 0 500 99 1; car 0 9;", "tick 4;");
        due("the deck sinks", sunk.lip(), 9);
        sunk.unload(0);
        due("and rises", sunk.lip(), 0);
        sunk.undo();
        due("undone", sunk.lip(), 9);
    }

    private static void dueWater(FerryRamp x, int high, int low) {
        due("waterIn(true) at " + x.count(0), x.waterIn(true), high);
        due("waterIn(false) at " + x.count(0), x.waterIn(false), low);
    }

    private static void waterIn() {
        says("- `isHigh`: whether high water is meant, not low water");
        dueWater(ramp("tide 0 9 half 3;"), 3, 0);
        dueWater(played("tide 0 9 half 3;", "tick 3;"), 0, 3);

        says("Returns in how many ticks there is high (low) water: the remainder of the time by 2 * HALF is HALF (0) then;");
        FerryRamp x = ramp("tide 0 9 half 3;");
        int[] high = {3, 2, 1, 0, 5, 4, 3, 2};
        int[] low = {0, 5, 4, 3, 2, 1, 0, 5};
        for (int time = 0; time < high.length; time++) {
            dueWater(x, high[time], low[time]);
            x.tick(1);
        }
        dueWater(played("tide 0 9 half 1;", "tick;"), 0, 1);
        dueWater(played("tide 0 9 half 1;", "tick 2;"), 1, 0);
        dueWater(played("tide 0 9 half 99;", "tick 50; tick 50;"), 197, 98);
        dueWater(played("tide 5 5 half 4;", "tick;"), 3, 7);

        says("0 if it is so now.");
        due("low water at first", new FerryRamp().waterIn(false), 0);
        due("high water", played("tide 0 9 half 99;", "tick 50; tick 49;").waterIn(true), 0);
        due("low water again", played("tide 0 9 half 7;", "tick 14;").waterIn(false), 0);
        due("high water again", played("tide 0 9 half 7;", "tick 21;").waterIn(true), 0);
    }

    private static void list() {
        says("Returns the weight of the lane 0 less that of the lane 2.");
        String three = "cross 1 patience 50; car 0 10; car 0 20; car 0 35;";
        due("none", new FerryRamp().list(), 0);
        due("a car on the ramp for the lane 0", played(three, "tick;").list(), 10);
        due("the lane 1 does not count", played(three, "tick 2;").list(), 10);
        due("a car on the ramp for the lane 2", played(three, "tick 3;").list(), -25);
        due("on deck", played(three, "tick 4;").list(), -25);
        due("unloaded", played(three, "tick 4; unload 2;").list(), 10);
        due("none in the lane 0", played(three, "tick 4; unload 0;").list(), -35);
        due("leaning", leaning().list(), -80);
    }

    private static void heaviest() {
        says("Returns the car on deck with the greatest weight,");
        String four = "cross 1 patience 50; car 0 20; car 0 40; car 0 30; car 0 999;";
        due("one", played(four, "tick 2;").heaviest(), 0);
        due("the second", played(four, "tick 3;").heaviest(), 1);
        due("a lighter one behind it, and one on the ramp that cannot begin", played(four, "tick 4;").heaviest(), 1);
        due("unloaded", played(four, "tick 4; unload 1;").heaviest(), 2);
        due("on the ramp", played("car 0 5; car 0 6;", "tick 5;").heaviest(), 0);
        due("in the queue", played("quay 99; kind 1 98 9 1; car 0 5; car 1 6;", "tick 9;").heaviest(), 0);
        due("the least weight", played("car 0 1;", "tick 4;").heaviest(), 0);

        says("of several the lowest;");
        String even = "cross 1 patience 50; car 0 40; car 0 40; car 0 40;";
        due("three", played(even, "tick 4;").heaviest(), 0);
        due("two of them", played(even, "tick 4; unload 0;").heaviest(), 1);
        due("which is not the first one on deck", played(even, "wave 2; tick 4;").heaviest(), 0);

        says("NONE if there is none.");
        due("a new object", new FerryRamp().heaviest(), NONE);
        due("in the queue", ramp("car 0 5;").heaviest(), NONE);
        due("on the ramp", played("car 0 5;", "tick;").heaviest(), NONE);
        due("unloaded", played("car 0 5;", "tick 4; unload 0;").heaviest(), NONE);
    }
}
