/** Promises 17 to 23: heights, the list and the heaviest car. */
public final class HeightsTest {
    private static final int NONE = FerryRamp.NONE;

    public static void main(String[] args) {
        tide();
        deck();
        slope();
        lip();
        waterIn();
        list();
        heaviest();
        Check.end();
    }

    private static void tide() {
        FerryRamp x = Check.ramp("tide -10 0 half 3;");
        int[] want = {-10, -7, -4, 0, -4, -7, -10, -7};
        for (int time = 0; time < want.length; time++) {
            Check.due("tide(" + time + ")", x.tide(time), want[time]);
        }
        Check.due("tide(602)", x.tide(602), -4);
        Check.due("tide(MAX)", x.tide(Integer.MAX_VALUE), -7);
        x.tick(5);
        Check.due("tide() asks for no present time", x.tide(1), -7);
        Check.throwsArgument("tide(-1)", () -> x.tide(-1));
        Check.throwsArgument("tide(MIN)", () -> x.tide(Integer.MIN_VALUE));
        FerryRamp wide = Check.ramp("tide -500 500 half 99;");
        Check.due("wide: tide(1)", wide.tide(1), -490);
        Check.due("wide: tide(99)", wide.tide(99), 500);
        Check.due("wide: tide(100)", wide.tide(100), 489);
        Check.due("wide: tide(197)", wide.tide(197), -490);
        FerryRamp quick = Check.ramp("tide 3 8 half 1;");
        Check.due("quick: tide(MAX)", quick.tide(Integer.MAX_VALUE), 8);
        Check.due("quick: tide(8)", quick.tide(8), 3);
    }

    private static void deck() {
        FerryRamp x = Check.ramp("tide 0 30 half 3; deck 5 sink 8; kind 0 500 99 1; cross 1 patience 5; car 0 7; car 0 16;");
        Check.due("deck(0)", x.deck(0), 5);
        Check.due("deck(2)", x.deck(2), 25);
        x.tick(2);
        Check.due("a load of 7", x.deck(0), 5);
        x.tick(1);
        Check.due("a load of 23", x.deck(0), 3);
        Check.due("a load of 23: high water", x.deck(3), 33);
        Check.due("deck(MAX)", x.deck(Integer.MAX_VALUE), 13);
        Check.throwsArgument("deck(-1)", () -> x.deck(-1));
        Check.throwsArgument("deck(MIN)", () -> x.deck(Integer.MIN_VALUE));
    }

    private static void slope() {
        FerryRamp x = Check.ramp("quay 7;");
        Check.due("slope()", x.slope(), 7);
        x.crank(5);
        Check.due("slope() less", x.slope(), 2);
        x.crank(6);
        Check.due("slope() on the other side", x.slope(), 4);
        x.undo();
        Check.due("slope() undone", x.slope(), 2);
        Check.due("slope() below", Check.ramp("tide -30 -30 half 5; quay -10;").slope(), 20);
    }

    private static void lip() {
        FerryRamp x = Check.ramp("tide 0 12 half 3; winch 2 3 0;");
        Check.due("lip() at first", x.lip(), 0);
        x.tick(1);
        Check.due("lip() pulled", x.lip(), 2);
        Check.due("END", x.count(4), 2);
        x.crank(5);
        Check.due("lip() the other way", x.lip(), 3);
        x.tick(1);
        Check.due("lip() less than PULL", x.lip(), 0);
        Check.due("the winch sleeps", x.count(5), 0);
        x.tick(1);
        Check.due("lip() 4 behind a tick", x.lip(), 2);
        FerryRamp y = Check.ramp("deck 9 sink 10; cross 1 patience 5; car 0 35; winch 1 50 0;");
        y.tick(2);
        Check.due("lip() with a load", y.lip(), 3);
        y.unload(0);
        Check.due("lip() without it", y.lip(), 0);
    }

    private static void waterIn() {
        FerryRamp x = Check.ramp("tide 0 9 half 3;");
        int[] high = {3, 2, 1, 0, 5, 4, 3, 2};
        int[] low = {0, 5, 4, 3, 2, 1, 0, 5};
        for (int time = 0; time < high.length; time++) {
            Check.due("waterIn(true) at " + time, x.waterIn(true), high[time]);
            Check.due("waterIn(false) at " + time, x.waterIn(false), low[time]);
            x.tick(1);
        }
        FerryRamp flat = Check.ramp("tide 5 5 half 99;");
        flat.tick(1);
        Check.due("waterIn(true) of a flat tide", flat.waterIn(true), 98);
        Check.due("waterIn(false) of a flat tide", flat.waterIn(false), 197);
        FerryRamp quick = Check.ramp("tide 5 9 half 1;");
        Check.due("waterIn(true) of a quick tide", quick.waterIn(true), 1);
        Check.due("waterIn(false) of a quick tide", quick.waterIn(false), 0);
        quick.tick(1);
        Check.due("waterIn(true) of a quick tide now", quick.waterIn(true), 0);
        Check.due("waterIn(false) of a quick tide then", quick.waterIn(false), 1);
    }

    private static void list() {
        FerryRamp x = Check.ramp("cross 1 patience 5; car 0 10; car 0 20; car 0 35; car 0 7;");
        Check.due("list() at first", x.list(), 0);
        x.tick(1);
        Check.due("list() with the car on the ramp", x.list(), 10);
        x.tick(1);
        Check.due("the lane 1 does not count", x.list(), 10);
        x.tick(1);
        Check.due("list() with the lane 2", x.list(), -25);
        x.tick(2);
        Check.due("list() with all", x.list(), -18);
        x.unload(2);
        Check.due("list() behind unload()", x.list(), 17);
    }

    private static void heaviest() {
        FerryRamp x = Check.ramp("cross 1 patience 5; car 0 10; car 0 40; car 0 40; car 0 90;");
        Check.due("heaviest() of none", x.heaviest(), NONE);
        x.tick(2);
        Check.due("heaviest() of one", x.heaviest(), 0);
        x.tick(2);
        Check.due("of several the lowest, none on the ramp", x.heaviest(), 1);
        x.tick(1);
        Check.due("heaviest() of four", x.heaviest(), 3);
        x.unload(0);
        Check.due("none that is unloaded", x.heaviest(), 1);
        x.arrive(0, 999);
        Check.due("none of the queue", x.heaviest(), 1);
    }
}
