/** Promises 42 to 46: output, undo, saved states. */
public final class KeepTest {
    private static final int NONE = FerryRamp.NONE;

    public static void main(String[] args) {
        writeLanes();
        output();
        undo();
        undoOfEach();
        undoOfWhatIsOverwritten();
        undoLimits();
        save();
        restore();
        Check.end();
    }

    private static void writeLanes() {
        FerryRamp x = Check.ramp("cross 1 patience 5; car 0 10; car 1 20; car 2 30; car 0 5; car 0 1;");
        Check.due("writeLanes() of none", x.writeLanes(), 12);
        Check.dueText("no cars", Check.output(x), "/10;/10;/10;");
        x.tick(4);
        Check.dueText("the car on the ramp takes length, but is not on deck", Check.output(x), "0/8;1/8;2/7;");
        x.tick(2);
        Check.dueText("commas between", Check.output(x), "0,3,4/7;1/8;2/7;");
        Check.due("its length", x.writeLanes(), 16);
        x.unload(0);
        x.unload(1);
        Check.dueText("unloaded", Check.output(x), "0,3/8;/10;2/7;");
        FerryRamp full = Check.ramp("cross 1 patience 5; lanes 30 load 9999 list 0; kind 0 100 10 1;");
        for (int car = 0; car < 13; car++) {
            full.arrive(0, 1);
            full.tick(1);
        }
        full.tick(1);
        Check.dueText("two digits", Check.output(full), "/30;0,1,2,3,4,5,6,7,8,9,10,11,12/17;/30;");
        FerryRamp sixty = Check.ramp("cross 1 patience 5; lanes 20 load 9999 list 9999; deck 0 sink 999;");
        for (int car = 0; car < 60; car++) {
            sixty.arrive(0, 1);
            sixty.tick(1);
        }
        sixty.tick(1);
        StringBuilder want = new StringBuilder();
        for (int lane = 0; lane < 3; lane++) {
            for (int car = lane; car < 60; car += 3) {
                want.append(car > lane ? "," : "").append(car);
            }
            want.append("/0;");
        }
        Check.dueText("60 cars", Check.output(sixty), want.toString());
    }

    private static void output() {
        FerryRamp x = new FerryRamp();
        Check.due("output(0) of nothing", x.output(0), NONE);
        x.writeLanes();
        Check.due("output(0)", x.output(0), 47);
        Check.due("output(1)", x.output(1), '1');
        Check.due("output(11)", x.output(11), ';');
        Check.due("output(12)", x.output(12), NONE);
        Check.due("output(-1)", x.output(-1), NONE);
        Check.due("output(MIN)", x.output(Integer.MIN_VALUE), NONE);
        Check.due("output(MAX)", x.output(Integer.MAX_VALUE), NONE);
        x.arrive(3, 5);
        x.tick(4);
        Check.due("it stays until it is written anew", x.output(1), '1');
        x.writeLanes();
        Check.due("a shorter one", x.output(0), '0');
        Check.due("its next byte", x.output(1), '/');
        x.undo();
        x.load();
        Check.due("undo() and load() leave it", x.output(0), '0');
        x.writeLanes();
        Check.load(x, "lanes 5 load 5 list 5;");
        Check.due("a shorter one", x.writeLanes(), 9);
        Check.due("behind its end", x.output(9), NONE);
    }

    private static String all(FerryRamp x) {
        StringBuilder text = new StringBuilder();
        for (int what = 0; what < 17; what++) {
            text.append(x.count(what)).append(' ');
        }
        for (int what = 0; what < 14; what++) {
            text.append(x.setting(what)).append(' ');
        }
        for (int what = 0; what < 12; what++) {
            text.append(x.kind(what / 3, what % 3)).append(' ');
        }
        for (int car = 0; car < x.count(3); car++) {
            for (int what = 0; what < 7; what++) {
                text.append(x.car(car, what)).append(' ');
            }
        }
        for (int index = 0; index < x.count(1); index++) {
            text.append(x.queued(index)).append(' ');
        }
        for (int lane = 0; lane < 3; lane++) {
            text.append(x.lane(lane, true)).append(' ').append(x.lane(lane, false)).append(' ');
            for (int index = 0; index < 30; index++) {
                text.append(x.standing(lane, index)).append(' ');
            }
        }
        for (int call = 0; call < Math.min(20, x.count(12)); call++) {
            for (int what = 0; what < 4; what++) {
                text.append(x.call(call, what)).append(' ');
            }
        }
        return text.append(x.slope()).append(' ').append(x.lip()).append(' ').append(x.deck(0)).toString();
    }

    private static FerryRamp busy() {
        FerryRamp x = Check.ramp("tide 0 20 half 9; deck 3 sink 9; kind 1 7 3 2; quay 9; cross 2 patience 2; car 1 40; car 0 50;"
            + "car 2 60; car 0 70; car 1 80;");
        x.tick(8);
        return x;
    }

    private static void undo() {
        FerryRamp x = busy();
        Check.due("an act", x.count(17), 1);
        String first = all(x);
        x.writeLanes();
        int sign = x.output(0);
        x.save(0);
        x.tick(5);
        String second = all(x);
        x.arrive(0, 5);
        Check.play(x, "wave 60;");
        x.appendText(0x20202020);
        Check.due("undo()", x.undo(), 2);
        Check.dueText("as ahead of arrive()", all(x), second);
        Check.due("undo() once more", x.undo(), 1);
        Check.dueText("as ahead of tick()", all(x), first);
        Check.due("acts that were undone count", x.account(0), 3);
        Check.due("the error stays", x.errorCode(), 2);
        Check.due("the text stays", x.truncateText(4), 4);
        Check.due("the output stays", x.output(0), sign);
        x.undo();
        Check.due("TIME", x.count(0), 0);
        Check.due("none to undo", x.undo(), NONE);
        Check.due("undo() is no act", x.account(0), 3);
        x.restore(0);
        Check.dueText("saved states stay", all(x), first);
    }

    private interface Act {
        int run(FerryRamp x);
    }

    private static void undoOfEach() {
        Act[] acts = {x -> x.tick(9), x -> x.arrive(2, 9), x -> x.wave(x.queued(1)), x -> x.dismiss(x.queued(0)),
            x -> x.setGate(false), x -> x.setWinch(9, 9, 9), x -> x.setCross(9, 9)};
        for (int act = 0; act < acts.length; act++) {
            FerryRamp x = busy();
            String before = all(x);
            Check.due("act " + act + " is done", acts[act].run(x) < 0 ? 1 : 0, 0);
            Check.due("act " + act + " changes something", all(x).equals(before) ? 1 : 0, 0);
            Check.due("undo() of act " + act, x.undo(), 1);
            Check.dueText("behind undo() of act " + act, all(x), before);
        }
        FerryRamp y = Check.ramp("deck 9 sink 2; cross 1 patience 9; car 0 3; car 3 5;");
        y.tick(3);
        String before = all(y);
        Check.due("crank(7)", y.crank(7), 11);
        y.undo();
        Check.dueText("behind undo() of crank()", all(y), before);
        Check.due("unload(1)", y.unload(1), 1);
        y.undo();
        Check.dueText("behind undo() of unload()", all(y), before);
        y.tick(1);
        Check.due("what is refused is nothing to undo", y.setGate(true), -1);
        Check.due("undo() of what was done", y.undo(), 1);
        Check.dueText("behind it", all(y), before);
    }

    private static void undoOfWhatIsOverwritten() {
        FerryRamp x = Check.ramp("cross 1 patience 9; lanes 30 load 9999 list 0; car 0 5; car 0 6; car 0 7;");
        x.tick(4);
        x.save(1);
        String before = all(x);
        Check.due("unload(1)", x.unload(1), 2);
        x.tick(1);
        x.unload(1);
        x.arrive(0, 9);
        x.tick(2);
        Check.due("another car where one stood", x.standing(1, 0), 0);
        Check.due("and one behind it", x.standing(1, 1), 3);
        String behind = all(x);
        x.save(0);
        for (int act = 0; act < 5; act++) {
            x.undo();
        }
        Check.dueText("undo() brings the lane back", all(x), before);
        x.restore(0);
        Check.dueText("restore(0) brings the lane back", all(x), behind);
        x.restore(1);
        Check.dueText("restore(1) brings the lane back", all(x), before);
        FerryRamp right = Check.ramp("cross 1 patience 9; car 0 5; car 0 6; car 0 7; car 0 1; car 0 1; car 0 1;");
        right.tick(7);
        String stood = all(right);
        right.unload(2);
        right.arrive(0, 1);
        right.tick(2);
        Check.due("another car in the lane 2", right.standing(2, 0), 6);
        right.undo();
        right.undo();
        right.undo();
        Check.dueText("undo() brings the lane 2 back", all(right), stood);
        FerryRamp calls = Check.ramp("quay 400; cross 1 patience 1; car 0 5;");
        calls.tick(25);
        String kept = all(calls);
        calls.tick(13);
        calls.undo();
        Check.dueText("undo() brings the calls back", all(calls), kept);
        calls.save(0);
        calls.tick(50);
        calls.restore(0);
        Check.dueText("restore() brings the calls back", all(calls), kept);
        FerryRamp many = new FerryRamp();
        for (int car = 0; car < 60; car++) {
            many.arrive(car % 4, 1 + car);
            many.dismiss(car);
        }
        String cars = all(many);
        many.save(0);
        many.undo();
        many.undo();
        many.arrive(0, 999);
        many.restore(0);
        Check.dueText("restore() brings 60 cars back", all(many), cars);
    }

    private static void undoLimits() {
        FerryRamp x = new FerryRamp();
        Check.due("undo() of a new object", x.undo(), NONE);
        for (int act = 0; act < 11; act++) {
            x.tick(1);
        }
        for (int left = 7; left >= 4; left--) {
            Check.due("undo()", x.undo(), left);
            Check.due("TIME", x.count(0), left + 3);
        }
        x.tick(20);
        Check.due("an act behind it", x.count(17), 5);
        x.undo();
        Check.due("TIME", x.count(0), 7);
        for (int left = 3; left >= 0; left--) {
            Check.due("undo()", x.undo(), left);
            Check.due("TIME", x.count(0), left + 3);
        }
        Check.due("undo() of the ninth", x.undo(), NONE);
        Check.due("TIME", x.count(0), 3);
        Check.play(x, "tick 1; tick 2; tick 3;");
        Check.due("the commands of a script are acts", x.undo(), 2);
        Check.due("TIME", x.count(0), 6);
        x.load();
        Check.due("load() leaves none", x.undo(), NONE);
        x.tick(2);
        Check.load(x, "wrong");
        Check.due("load() with an error leaves all", x.undo(), 0);
    }

    private static void save() {
        FerryRamp x = busy();
        String first = all(x);
        x.save(0);
        Check.dueText("save() changes nothing", all(x), first);
        Check.due("not what can be undone", x.count(17), 1);
        x.tick(3);
        String second = all(x);
        x.save(1);
        x.restore(0);
        Check.dueText("the slot 0", all(x), first);
        x.restore(1);
        Check.dueText("the slot 1", all(x), second);
        x.arrive(3, 4);
        String third = all(x);
        x.save(0);
        x.tick(9);
        x.restore(0);
        Check.dueText("a state that is replaced", all(x), third);
        for (int slot : new int[] {-1, 2, Integer.MAX_VALUE, Integer.MIN_VALUE}) {
            Check.throwsArgument("save(" + slot + ")", () -> x.save(slot));
        }
    }

    private static void restore() {
        FerryRamp x = busy();
        Check.throwsState("restore(0) of nothing", () -> x.restore(0));
        Check.throwsState("restore(1) of nothing", () -> x.restore(1));
        for (int slot : new int[] {-1, 2, Integer.MAX_VALUE, Integer.MIN_VALUE}) {
            Check.throwsArgument("restore(" + slot + ")", () -> x.restore(slot));
        }
        Check.due("what throws leaves what can be undone", x.count(17), 1);
        x.save(1);
        String saved = all(x);
        Check.throwsState("restore(0) of nothing still", () -> x.restore(0));
        Check.load(x, "tide 3 9 half 5; lanes 3 load 4 list 5; kind 1 1 1 1; winch 1 1 1; cross 1 patience 1; car 1 1;");
        x.tick(9);
        x.setGate(true);
        x.writeLanes();
        Check.play(x, "tick 0");
        int done = x.account(0);
        int refused = x.account(1);
        x.appendText(0x74696465);
        x.restore(1);
        Check.dueText("the saved state, its setup, too", all(x), saved);
        Check.due("no act can be undone", x.count(17), 0);
        Check.due("undo()", x.undo(), NONE);
        Check.due("accounts stay", x.account(0), done);
        Check.due("accounts of refusals stay", x.account(1), refused);
        Check.due("the error stays", x.errorCode(), 2);
        Check.due("its position stays", x.errorPosition(), 5);
        Check.due("the output stays", x.output(0), '/');
        Check.due("the text stays", x.truncateText(4), 4);
        x.tick(20);
        x.restore(1);
        Check.dueText("it stays saved", all(x), saved);
    }
}
