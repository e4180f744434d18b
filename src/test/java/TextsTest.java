/** Promises 1 to 7, setups and scripts. */
public final class TextsTest {
    private static final int NONE = FerryRamp.NONE;

    public static void main(String[] args) {
        newObject();
        appendText();
        truncateText();
        load();
        loadOfEverySetting();
        loadOverMuch();
        loadErrors();
        loadRanges();
        play();
        playOfEveryCommand();
        playErrors();
        playRanges();
        errors();
        Check.end();
    }

    private static void newObject() {
        FerryRamp x = new FerryRamp();
        int[] counts = {0, 0, 0, 0, 0, 0, 0, 0, NONE, 0, 0, 0, 0, 0, 0, 0, 1, 0};
        for (int what = 0; what < counts.length; what++) {
            Check.due("new: count(" + what + ")", x.count(what), counts[what]);
        }
        int[] settings = {0, 0, 10, 0, 0, 100, 10, 1000, 1000, 2, 5, 2, 3, 5};
        for (int what = 0; what < settings.length; what++) {
            Check.due("new: setting(" + what + ")", x.setting(what), settings[what]);
        }
        for (int kind = 0; kind < 4; kind++) {
            Check.due("new: STEEP of " + kind, x.kind(kind, 0), 100);
            Check.due("new: LIP of " + kind, x.kind(kind, 1), 10);
            Check.due("new: LENGTH of " + kind, x.kind(kind, 2), kind + 1);
        }
        for (int what = 0; what < 5; what++) {
            Check.due("new: account(" + what + ")", x.account(what), 0);
        }
        Check.due("new: the text buffer is empty", x.appendText(0), 4);
        Check.due("new: output(0)", x.output(0), NONE);
        Check.throwsState("new: restore(0)", () -> new FerryRamp().restore(0));
        Check.throwsState("new: restore(1)", () -> new FerryRamp().restore(1));
        FerryRamp other = new FerryRamp();
        x.arrive(0, 5);
        Check.due("another object stays as it is", other.count(1), 0);
    }

    private static void appendText() {
        FerryRamp x = new FerryRamp();
        Check.due("appendText(quay)", x.appendText(0x71756179), 4);
        Check.due("appendText( 77;)", x.appendText(0x2037373b), 8);
        Check.due("load() of it", x.load(), 0);
        Check.due("QUAY", x.setting(3), 77);
        for (int length = 4; length <= 500; length += 4) {
            Check.due("appendText to " + length, x.appendText(0x20202020), length);
        }
        Check.throwsState("appendText beyond 500", () -> x.appendText(0x20202020));
        Check.due("the length is 500 still", x.truncateText(500), 500);
        x.truncateText(497);
        Check.throwsState("appendText from 497", () -> x.appendText(0x20202020));
        Check.due("the length is 497 still", x.truncateText(497), 497);
        x.truncateText(496);
        Check.due("appendText from 496", x.appendText(0x20202041), 500);
        x.load();
        Check.due("the last of 500 bytes counts", x.errorPosition(), 499);
        x.appendText(0xff202020);
        x.load();
        Check.due("a byte above 127: errorCode()", x.errorCode(), 1);
        Check.due("a byte above 127: errorPosition()", x.errorPosition(), 0);
        x.appendText(0x20202080);
        x.load();
        Check.due("the lowest byte comes last", x.errorPosition(), 3);
    }

    private static void truncateText() {
        FerryRamp x = new FerryRamp();
        Check.due("truncateText(0) of nothing", x.truncateText(0), 0);
        Check.throwsArgument("truncateText(1) of nothing", () -> x.truncateText(1));
        Check.throwsArgument("truncateText(-1)", () -> x.truncateText(-1));
        x.appendText(0x71756179);
        Check.throwsArgument("truncateText(5) of four", () -> x.truncateText(5));
        Check.throwsArgument("truncateText(MIN)", () -> x.truncateText(Integer.MIN_VALUE));
        Check.throwsArgument("truncateText(MAX)", () -> x.truncateText(Integer.MAX_VALUE));
        Check.due("truncateText(4) of four", x.truncateText(4), 4);
        Check.due("truncateText(3) of four", x.truncateText(3), 3);
        Check.throwsArgument("truncateText(4) of three", () -> x.truncateText(4));
        Check.due("appendText behind it", x.appendText(0x79203939), 7);
        Check.due("appendText behind that", x.appendText(0x3b202020), 11);
        Check.due("load()", x.load(), 0);
        Check.due("the first bytes stay", x.setting(3), 99);
    }

    private static void load() {
        FerryRamp x = new FerryRamp();
        x.arrive(0, 5);
        x.arrive(0, 6);
        x.tick(7);
        x.setGate(false);
        x.unload(2);
        x.writeLanes();
        int done = x.account(0);
        int refused = x.account(1);
        x.save(1);
        Check.due("load()", Check.load(x, "tide -5 20 half 7; quay 3; car 2 30; car 0 40; car 3 50;"), 3);
        Check.due("TIME", x.count(0), 0);
        Check.due("cars so far", x.count(3), 3);
        Check.due("on deck", x.count(2), 0);
        Check.due("boarded", x.count(13), 0);
        Check.due("the load", x.count(7), 0);
        Check.due("the gate", x.count(16), 1);
        Check.due("END is DECK", x.count(4), -5);
        Check.due("the ramp", x.count(8), NONE);
        Check.due("WAITING", x.count(11), 0);
        Check.due("no act can be undone", x.count(17), 0);
        Check.due("undo()", x.undo(), NONE);
        Check.due("accounts of what is done stay", x.account(0), done);
        Check.due("accounts of what is refused stay", x.account(1), refused);
        Check.due("the output stays", x.output(0), '0');
        Check.due("a car of the setup arrived", x.car(2, 4), 0);
        Check.due("its kind", x.car(2, 0), 3);
        Check.due("its weight", x.car(2, 1), 50);
        Check.due("it waits", x.car(2, 2), 0);
        Check.due("the text is empty", x.truncateText(0), 0);
        Check.throwsArgument("the text is empty", () -> x.truncateText(1));
        x.restore(1);
        Check.due("saved states stay", x.count(2), 2);
        Check.due("load() of nothing", x.load(), 0);
        Check.due("which is as a new object", x.setting(3), 0);
        Check.due("with nothing on deck", x.standing(0, 0), NONE);
        Check.due("and all free", x.lane(0, true), 10);
        x.arrive(1, 70);
        x.crank(3);
        Check.due("load() with an error", Check.load(x, "quay 5; car 0 5; quay"), NONE);
        Check.due("which changes nothing", x.setting(3), 0);
        Check.due("not the queue either", x.count(1), 1);
        Check.due("not the END", x.count(4), 3);
        Check.due("not what can be undone", x.count(17), 2);
        Check.throwsArgument("but empties the text", () -> x.truncateText(1));
        Check.due("a call of the crew", Check.load(x, "cross 3 patience 1; kind 0 100 0 1; lanes 1 load 1 list 1; car 0 9;"), 1);
        x.tick(3);
        Check.due("calls", x.count(12), 3);
        x.load();
        Check.throwsIndex("calls are gone", () -> x.call(0, 0));
        FerryRamp y = Check.ramp("car 3 5; kind 3 0 0 9;");
        Check.due("kinds count as they are told in the end", y.whyNot(0), 0);
        Check.due("LENGTH of it", y.kind(3, 2), 9);
    }

    private static void loadOfEverySetting() {
        FerryRamp x = Check.ramp("\n car 1 999;kind 3 500 99 9;kind 0 0 0 1 ;tide-500 500half 99;quay - 500;"
            + "deck 300 sink 999;lanes 30 load 9999 list 0;winch 20 50 20;cross 20 patience 50 ; \n");
        int[] want = {-500, 500, 99, -500, 300, 999, 30, 9999, 0, 20, 50, 20, 20, 50};
        for (int what = 0; what < want.length; what++) {
            Check.due("greatest: setting(" + what + ")", x.setting(what), want[what]);
        }
        Check.due("greatest: STEEP", x.kind(3, 0), 500);
        Check.due("greatest: LIP", x.kind(3, 1), 99);
        Check.due("greatest: LENGTH", x.kind(3, 2), 9);
        Check.due("least: STEEP", x.kind(0, 0), 0);
        Check.due("least: LIP", x.kind(0, 1), 0);
        Check.due("untold: STEEP", x.kind(1, 0), 100);
        Check.due("END", x.count(4), -200);
        Check.due("WEIGHT", x.car(0, 1), 999);
        FerryRamp y = Check.ramp("tide 7 7 half 1; quay 0; deck 0 sink 1; lanes 1 load 1 list 9999; winch 1 0 0; "
            + "cross 1 patience 1; kind 2 500 0 0001; car 0 000000000000000000000000001;");
        int[] least = {7, 7, 1, 0, 0, 1, 1, 1, 9999, 1, 0, 0, 1, 1};
        for (int what = 0; what < least.length; what++) {
            Check.due("least: setting(" + what + ")", y.setting(what), least[what]);
        }
        Check.due("a number with zeros ahead", y.car(0, 1), 1);
        Check.due("minus nothing", Check.ramp("tide -0 0 half 5;").setting(0), 0);
        StringBuilder twenty = new StringBuilder();
        for (int car = 0; car < 20; car++) {
            twenty.append("car 0 1;");
        }
        Check.due("20 cars", Check.load(x, twenty.toString()), 20);
        Check.wrongSetup(twenty + "car 0 1;", 4, 160);
        Check.wrongSetup(twenty + " car", 4, 161);
        Check.wrongSetup(twenty + "cars", 1, 160);
    }

    /** Nothing of what was there, or of what would have been, is left behind load(). */
    private static void loadOverMuch() {
        FerryRamp x = Check.ramp("tide -9 9 half 9; quay 9; deck 9 sink 9; lanes 9 load 999 list 999; winch 9 9 9;"
            + "cross 1 patience 9; kind 0 99 99 9; kind 1 99 99 8; kind 2 99 99 7; kind 3 99 99 6; car 0 10; car 1 20; car 2 30;");
        x.tick(4);
        Check.due("boardIn(50)", x.boardIn(50), 0);
        Check.due("cars on deck", x.count(2), 3);
        Check.due("load()", Check.load(x, "car 0 5;"), 1);
        int[] settings = {0, 0, 10, 0, 0, 100, 10, 1000, 1000, 2, 5, 2, 3, 5};
        for (int what = 0; what < settings.length; what++) {
            Check.due("anew: setting(" + what + ")", x.setting(what), settings[what]);
        }
        for (int kind = 0; kind < 4; kind++) {
            Check.due("anew: STEEP of " + kind, x.kind(kind, 0), 100);
            Check.due("anew: LIP of " + kind, x.kind(kind, 1), 10);
            Check.due("anew: LENGTH of " + kind, x.kind(kind, 2), kind + 1);
        }
        int[] car = {0, 5, 0, NONE, 0, NONE, NONE};
        for (int what = 0; what < car.length; what++) {
            Check.due("anew: car(0, " + what + ")", x.car(0, what), car[what]);
        }
        for (int lane = 0; lane < 3; lane++) {
            Check.due("anew: standing(" + lane + ", 0)", x.standing(lane, 0), NONE);
            Check.due("anew: what is free of " + lane, x.lane(lane, true), 10);
            Check.due("anew: the weight of " + lane, x.lane(lane, false), 0);
        }
        Check.due("anew: heaviest()", x.heaviest(), NONE);
        Check.due("anew: END", x.count(4), 0);
        Check.due("anew: the slope", x.slope(), 0);
        Check.due("anew: the lip", x.lip(), 0);
    }

    private static void loadErrors() {
        Check.wrongSetup(";", 1, 0);
        Check.wrongSetup(" 5", 1, 1);
        Check.wrongSetup("tick;", 1, 0);
        Check.wrongSetup("Tide 0 5 half 3;", 1, 0);
        Check.wrongSetup("tides 0 5 half 3;", 1, 0);
        Check.wrongSetup("tidez 0 5 half 3;", 1, 0);
        Check.wrongSetup("tidea 0 5 half 3;", 1, 0);
        Check.wrongSetup("tide{0 5 half 3;", 1, 4);
        Check.wrongSetup("tide`0 5 half 3;", 1, 4);
        Check.wrongSetup("quay 5/;", 1, 6);
        Check.wrongSetup("quay 5:;", 1, 6);
        Check.wrongSetup("bide 0 5 half 3;", 1, 0);
        Check.wrongSetup("quax 5;", 1, 0);
        Check.wrongSetup("tid", 1, 0);
        Check.wrongSetup("tide", 1, 4);
        Check.wrongSetup("tide \n ", 1, 7);
        Check.wrongSetup("tide - ", 1, 7);
        Check.wrongSetup("tide - - 5", 1, 7);
        Check.wrongSetup("tide 0 5 ;", 1, 9);
        Check.wrongSetup("tide 0 5 7", 1, 9);
        Check.wrongSetup("tide 0 5 halfs 7;", 1, 9);
        Check.wrongSetup("tide 0 5 half", 1, 13);
        Check.wrongSetup("tide 0 5 half -7;", 1, 14);
        Check.wrongSetup("tide 0 5 half 7", 1, 15);
        Check.wrongSetup("tide 0 5 half 7 quay 5;", 1, 16);
        Check.wrongSetup("tide 0 5 half 7 8;", 1, 16);
        Check.wrongSetup("quay 5;\tquay 6;", 1, 7);
        Check.wrongSetup("quay 5;;", 1, 7);
        Check.wrongSetup("quay +5;", 1, 5);
        Check.wrongSetup("quay 5\u0000;", 1, 6);
        Check.wrongSetup("deck -5 sink 5;", 1, 5);
        Check.wrongSetup("deck 5 load 5;", 1, 7);
        Check.wrongSetup("lanes 5 list 5;", 1, 8);
        Check.wrongSetup("lanes 5 load 5;", 1, 14);
        Check.wrongSetup("cross 5 5;", 1, 8);
        Check.wrongSetup("winch 5 5;", 1, 9);
        Check.wrongSetup("kind 0 5 5;", 1, 10);
        Check.wrongSetup("kind word", 1, 5);
        Check.wrongSetup("car 5 word", 2, 4);
        Check.wrongSetup("car 0;", 1, 5);
        Check.wrongSetup("quay 1; quay", 3, 8);
        Check.wrongSetup("tide 0 0 half 1; car 0 1; tide ?", 3, 26);
        Check.wrongSetup("deck 0 sink 1; deck", 3, 15);
        Check.wrongSetup("lanes 1 load 1 list 1; lanes", 3, 23);
        Check.wrongSetup("winch 1 1 1;winch", 3, 12);
        Check.wrongSetup("cross 1 patience 1;cross", 3, 19);
        Check.wrongSetup("kind 2 1 1 1; kind 1 1 1 1; kind 2 A", 3, 33);
        Check.wrongSetup("kind 2 1 1 1; kind 4 1 1 1;", 2, 19);
        Check.wrongSetup("kind 0 1 1 1; kind 0000 1 1 1;", 3, 19);
        Check.due("gate is no statement", Check.load(new FerryRamp(), "gate open;"), NONE);
    }

    private static void loadRanges() {
        Check.wrongSetup("tide 501 501 half 1;", 2, 5);
        Check.wrongSetup("tide -501 0 half 1;", 2, 6);
        Check.wrongSetup("tide 0 501 half 1;", 2, 7);
        Check.wrongSetup("tide 5 4 half 1;", 2, 7);
        Check.wrongSetup("tide -4 -5 half 1;", 2, 9);
        Check.wrongSetup("tide 0 - 1 half 1;", 2, 9);
        Check.wrongSetup("tide 0 5 half 0;", 2, 14);
        Check.wrongSetup("tide 0 5 half 100;", 2, 14);
        Check.wrongSetup("quay 501;", 2, 5);
        Check.wrongSetup("quay - 501;", 2, 7);
        Check.wrongSetup("quay 99999999999999999999999999999999999;", 2, 5);
        Check.wrongSetup("quay 4294967296;", 2, 5);
        Check.wrongSetup("quay 18446744073709551616;", 2, 5);
        Check.wrongSetup("deck 301 sink 1;", 2, 5);
        Check.wrongSetup("deck 0 sink 0;", 2, 12);
        Check.wrongSetup("deck 0 sink 1000;", 2, 12);
        Check.wrongSetup("lanes 0 load 1 list 0;", 2, 6);
        Check.wrongSetup("lanes 31 load 1 list 0;", 2, 6);
        Check.wrongSetup("lanes 1 load 0 list 0;", 2, 13);
        Check.wrongSetup("lanes 1 load 10000 list 0;", 2, 13);
        Check.wrongSetup("lanes 1 load 1 list 10000;", 2, 20);
        Check.wrongSetup("kind 4 0 0 1;", 2, 5);
        Check.wrongSetup("kind 0 501 0 1;", 2, 7);
        Check.wrongSetup("kind 0 0 100 1;", 2, 9);
        Check.wrongSetup("kind 0 0 0 0;", 2, 11);
        Check.wrongSetup("kind 0 0 0 10;", 2, 11);
        Check.wrongSetup("winch 0 0 0;", 2, 6);
        Check.wrongSetup("winch 21 0 0;", 2, 6);
        Check.wrongSetup("winch 1 51 0;", 2, 8);
        Check.wrongSetup("winch 1 0 21;", 2, 10);
        Check.wrongSetup("cross 0 patience 1;", 2, 6);
        Check.wrongSetup("cross 21 patience 1;", 2, 6);
        Check.wrongSetup("cross 1 patience 0;", 2, 17);
        Check.wrongSetup("cross 1 patience 51;", 2, 17);
        Check.wrongSetup("car 4 1;", 2, 4);
        Check.wrongSetup("car 0 0;", 2, 6);
        Check.wrongSetup("car 0 1000;", 2, 6);
    }

    private static void play() {
        FerryRamp x = new FerryRamp();
        Check.due("play() of nothing", x.play(), 0);
        Check.due("play()", Check.play(x, "car 0 50; tick; tick 3; car 1 60;"), 4);
        Check.due("acts that can be undone", x.count(17), 4);
        Check.due("acts that were done", x.account(0), 4);
        Check.due("TIME", x.count(0), 4);
        Check.due("on deck", x.count(2), 1);
        Check.throwsArgument("the text is empty", () -> x.truncateText(1));
        Check.due("play() up to a refusal", Check.play(x, "tick 2; gate open; tick 5;"), 1);
        Check.due("TIME then", x.count(0), 6);
        Check.due("the refusal counts", x.account(1), 1);
        Check.due("no error", x.errorCode(), 0);
        Check.due("the first one refused", Check.play(x, "wave 59; tick;"), 0);
        Check.due("it counts, too", x.account(1), 2);
        Check.due("a refusal with the reason 2", Check.play(x, "gate closed; crank 5;"), 1);
        Check.due("it counts with its reason", x.account(2), 1);
        Check.due("an error behind good commands", Check.play(x, "tick; tick; tick 51;"), NONE);
        Check.due("none of them is done", x.count(0), 6);
        Check.throwsArgument("the text is empty", () -> x.truncateText(1));
        Check.due("play() keeps the latest 8", Check.play(x, "tick;tick;tick;tick;tick;tick;tick;tick;tick;tick;"), 10);
        Check.due("of ten", x.count(17), 8);
        StringBuilder forty = new StringBuilder();
        for (int command = 0; command < 40; command++) {
            forty.append("tick;");
        }
        Check.due("40 commands", Check.play(x, forty.toString()), 40);
        Check.wrongScript(forty + "tick;", 4, 200);
        Check.wrongScript(forty + " gate", 4, 201);
        Check.wrongScript(forty + "ticks;", 1, 200);
        Check.wrongScript(forty + ";", 1, 200);
    }

    private static void playOfEveryCommand() {
        FerryRamp x = new FerryRamp();
        Check.due("play()", Check.play(x, "car 3 999;car 0 1;car 1 2;wave 2;dismiss 0;gate closed;crank-20;crank 7;"
            + "winch 7 40 9;cross 4 patience 6;tick 50;tick\n;gate open;"), 13);
        Check.due("dismissed", x.car(0, 2), 4);
        Check.due("waved", x.queued(0), 2);
        Check.due("END", x.count(4), -13);
        Check.due("PULL", x.setting(9), 7);
        Check.due("SLACK", x.setting(10), 40);
        Check.due("WAKE", x.setting(11), 9);
        Check.due("CROSS", x.setting(12), 4);
        Check.due("PATIENCE", x.setting(13), 6);
        Check.due("TIME", x.count(0), 51);
        Check.due("the gate", x.count(16), 1);
        Check.due("unload", Check.play(x, "crank 13; tick 20; unload 0;"), 3);
        Check.due("unloaded", x.count(14), 1);
        Check.due("the greatest", Check.play(x, "winch 20 50 20; cross 20 patience 50; car 3 999; gate closed; tick 50;"), 5);
        Check.due("the least", Check.play(x, "winch 1 0 0; cross 1 patience 1; car 0 1; gate open;"), 4);
        Check.due("car 59", Check.play(x, "dismiss 59;"), 0);
        Check.due("lane 2", Check.play(x, "unload 2;"), 0);
        Check.due("crank 0 is refused", Check.play(x, "crank - 0; tick;"), 0);
    }

    private static void playErrors() {
        Check.wrongScript("tide 0 0 half 1;", 1, 0);
        Check.wrongScript("tick", 1, 4);
        Check.wrongScript("tick 5 5;", 1, 7);
        Check.wrongScript("tick -5;", 1, 5);
        Check.wrongScript("tick word;", 1, 5);
        Check.wrongScript("gate;", 1, 4);
        Check.wrongScript("gate close;", 1, 5);
        Check.wrongScript("gate closedd;", 1, 5);
        Check.wrongScript("gate open closed;", 1, 10);
        Check.wrongScript("gate 1;", 1, 5);
        Check.wrongScript("car 0;", 1, 5);
        Check.wrongScript("wave;", 1, 4);
        Check.wrongScript("wave -1;", 1, 5);
        Check.wrongScript("crank;", 1, 5);
        Check.wrongScript("crank --5;", 1, 7);
        Check.wrongScript("winch 1 2;", 1, 9);
        Check.wrongScript("cross 1 2;", 1, 8);
        Check.wrongScript("cross 1 patience;", 1, 16);
        Check.wrongScript("half;", 1, 0);
        Check.wrongScript("tick; TICK;", 1, 6);
        Check.wrongScript("   ;", 1, 3);
        Check.wrongScript("kind 0 1 1 1;", 1, 0);
    }

    private static void playRanges() {
        Check.wrongScript("tick 0;", 2, 5);
        Check.wrongScript("tick 51;", 2, 5);
        Check.wrongScript("car 4 5;", 2, 4);
        Check.wrongScript("car 0 0;", 2, 6);
        Check.wrongScript("car 0 1000;", 2, 6);
        Check.wrongScript("wave 60;", 2, 5);
        Check.wrongScript("dismiss 60;", 2, 8);
        Check.wrongScript("unload 3;", 2, 7);
        Check.wrongScript("crank 21;", 2, 6);
        Check.wrongScript("crank -21;", 2, 7);
        Check.wrongScript("winch 0 0 0;", 2, 6);
        Check.wrongScript("winch 21 0 0;", 2, 6);
        Check.wrongScript("winch 1 51 0;", 2, 8);
        Check.wrongScript("winch 1 0 21;", 2, 10);
        Check.wrongScript("cross 0 patience 1;", 2, 6);
        Check.wrongScript("cross 21 patience 1;", 2, 6);
        Check.wrongScript("cross 1 patience 0;", 2, 17);
        Check.wrongScript("cross 1 patience 51;", 2, 17);
    }

    private static void errors() {
        FerryRamp x = new FerryRamp();
        Check.due("errorCode() at first", x.errorCode(), 0);
        Check.due("errorPosition() at first", x.errorPosition(), NONE);
        Check.load(x, "quay 501;");
        Check.due("errorCode() of load()", x.errorCode(), 2);
        Check.due("errorPosition() of load()", x.errorPosition(), 5);
        x.tick(1);
        x.undo();
        Check.due("undo() leaves the error", x.errorCode(), 2);
        Check.play(x, "tick");
        Check.due("errorCode() of play()", x.errorCode(), 1);
        Check.due("errorPosition() of play()", x.errorPosition(), 4);
        x.save(0);
        x.play();
        Check.due("errorCode() of the latest one", x.errorCode(), 0);
        Check.due("errorPosition() of the latest one", x.errorPosition(), NONE);
        Check.load(x, "quay 1; quay 2;");
        x.restore(0);
        Check.due("restore() leaves the error", x.errorCode(), 3);
        x.load();
        Check.due("errorCode() of a good load()", x.errorCode(), 0);
        Check.due("errorPosition() of a good load()", x.errorPosition(), NONE);
    }
}
