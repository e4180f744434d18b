/** The sentences of the promises 42 to 46: output, undo, saved states. */
final class KeepSentences extends Sentences {
    static void run() {
        section("Promise 42");
        writeLanes();
        section("Promise 43");
        outputBytes();
        section("Promise 44");
        undo();
        undoLeaves();
        undoCounts();
        section("Promise 45");
        save();
        section("Promise 46");
        restore();
    }

    private static void dueOutput(String when, FerryRamp x, String want) {
        dueText(when, output(x), want);
    }

    private static void writeLanes() {
        says("Writes the lanes as the output, which is replaced:");
        FerryRamp x = ramp("cross 1 patience 50; car 0 5; car 1 6; car 2 7; car 0 1;");
        dueOutput("no cars", x, "/10;/10;/10;");
        x.tick(5);
        dueOutput("four cars", x, "0,3/8;1/8;2/7;");
        x.unload(0);
        x.unload(0);
        dueOutput("two cars", x, "/10;1/8;2/7;");
        load(x, "lanes 9 load 9 list 9;");
        due("a shorter one", x.writeLanes(), 9);
        due("nothing is left behind it", x.output(9), NONE);

        says("for each lane the numbers of its cars on deck with commas (byte 44) between,");
        FerryRamp ramp = played("lanes 9 load 99 list 0; cross 1 patience 50;" + "car 0 1;".repeat(4), "tick;");
        dueOutput("none on deck, one on the ramp", ramp, "/9;/8;/9;");
        ramp.tick(1);
        dueOutput("one on deck, one on the ramp", ramp, "/9;0/7;/9;");
        ramp.tick(1);
        dueOutput("two on deck", ramp, "/9;0,1/6;/9;");
        due("the comma", ramp.output(4), 44);
        FerryRamp waved = played("lanes 9 load 99 list 0; cross 1 patience 50;" + "car 0 1;".repeat(3), "wave 2; tick 4;");
        dueOutput("in the order in which they stand", waved, "/9;2,0,1/6;/9;");
        FerryRamp digits = ramp("lanes 30 load 99 list 0; cross 1 patience 50;");
        for (int car = 0; car < 60; car++) {
            digits.arrive(0, 1);
            if (car == 8 || car == 9 || car == 10 || car == 59) {
                digits.tick(1);
            } else {
                digits.dismiss(car);
            }
        }
        digits.tick(2);
        dueOutput("one digit and two", digits, "/30;8,9,10,59/26;/30;");

        says("a slash (byte 47)");
        due("the slash", ramp.output(0), 47);
        due("the slash behind the cars", ramp.output(6), 47);

        says("and what is free of it,");
        dueOutput("LANE", new FerryRamp(), "/10;/10;/10;");
        dueOutput("the greatest LANE", ramp("lanes 30 load 9 list 9;"), "/30;/30;/30;");
        dueOutput("the car on the ramp takes length", played("car 3 5;", "tick;"), "/6;/10;/10;");
        dueOutput("nothing is free", played("lanes 1 load 9 list 9; car 0 5;", "tick 4;"), "0/0;/1;/1;");
        dueOutput("9 of 10", played("car 0 5;", "tick 4;"), "0/9;/10;/10;");

        says("and a semicolon.");
        due("the first one", ramp.output(2), 59);
        due("the last one", ramp.output(11), 59);

        says("Returns the number of bytes of the output.");
        due("no cars", new FerryRamp().writeLanes(), 12);
        due("LANE 1", ramp("lanes 1 load 9 list 9;").writeLanes(), 9);
        due("two cars", ramp.writeLanes(), 12);
        FerryRamp sixty = ramp("lanes 20 load 9999 list 9999; deck 0 sink 999; cross 1 patience 50;");
        for (int car = 0; car < 60; car++) {
            sixty.arrive(0, 1);
            sixty.tick(1);
        }
        sixty.tick(1);
        StringBuilder want = new StringBuilder();
        for (int lane = 0; lane < 3; lane++) {
            for (int car = lane; car < 60; car += 3) {
                want.append(car > lane ? "," : "").append(car);
            }
            want.append("/0;");
        }
        due("60 cars", sixty.writeLanes(), want.length());
        dueOutput("60 cars", sixty, want.toString());
    }

    private static void outputBytes() {
        says("- `index`: 0 for the first byte");
        FerryRamp x = played("car 0 5;", "tick 4;");
        x.writeLanes();
        due("the first byte", x.output(0), '0');
        due("the last byte", x.output(11), ';');

        says("Returns this byte of the output;");
        String text = "0/9;/10;/10;";
        for (int index = 0; index < text.length(); index++) {
            due("output(" + index + ")", x.output(index), text.charAt(index));
        }
        x.tick(1);
        x.unload(0);
        due("until it is written anew", x.output(0), '0');
        x.writeLanes();
        due("written anew", x.output(0), '/');

        says("NONE if there is no such byte, or nothing was written.");
        for (int index : new int[] {-1, 12, 13, 255, 256, MIN, MAX}) {
            due("output(" + index + ")", x.output(index), NONE);
        }
        for (int index : new int[] {0, 1, -1, 12, MIN, MAX}) {
            due("nothing was written: output(" + index + ")", ramp("car 0 5;").output(index), NONE);
        }
    }

    private static void undo() {
        says("Undoes the latest act that can be undone: everything but the accounts, the text buffer, the latest error, the output"
            + " and the saved states is as it was ahead of it.");
        for (int act = 0; act < DONE.length; act++) {
            FerryRamp x = ready();
            DONE[act].on(x);
            due(NAMES[act], x.undo(), 3);
            same(NAMES[act], Look.whole(x), Look.whole(ready()));
        }
        FerryRamp busy = Look.busy();
        String before = Look.state(busy);
        busy.tick(50);
        busy.tick(50);
        busy.setGate(true);
        busy.undo();
        busy.undo();
        same("two times 50 ticks, and a refusal", Look.state(busy), before);
        for (int lane = 0; lane < 3; lane++) {
            FerryRamp boarded = played("cross 1 patience 50;" + "car 0 9;".repeat(6), "tick 7;");
            String stood = Look.state(boarded);
            boarded.unload(lane);
            boarded.arrive(0, 8);
            boarded.tick(2);
            due("another car stands where one stood", boarded.standing(lane, 1), 6);
            boarded.undo();
            boarded.undo();
            boarded.undo();
            same("the lane " + lane + " is as it was", Look.state(boarded), stood);
        }
        FerryRamp calls = played("quay 400; cross 1 patience 1; car 0 5;", "tick 25;");
        String kept = Look.state(calls);
        calls.tick(50);
        calls.undo();
        same("the calls that were kept are as they were", Look.state(calls), kept);
    }

    private static void undoLeaves() {
        FerryRamp x = Look.busy();
        String accounts = Look.accounts(x);
        String texts = Look.texts(x);
        x.undo();
        same("the accounts stay", Look.accounts(x), accounts);
        same("the text, the error and the output stay", Look.texts(x), texts);
        for (int slot = 0; slot < 2; slot++) {
            FerryRamp undone = Look.busy();
            FerryRamp twin = Look.busy();
            for (int act = 0; act < 5; act++) {
                undone.undo();
            }
            undone.restore(slot);
            twin.restore(slot);
            same("the slot " + slot + " stays", Look.state(undone), Look.state(twin));
        }
        FerryRamp later = new FerryRamp();
        later.tick(1);
        later.save(0);
        later.appendText(0x20202020);
        later.writeLanes();
        later.undo();
        due("the text that came behind the act", Look.textLength(later), 4);
        due("the output that came behind the act", later.output(0), 47);
        later.restore(0);
        counts("the state that was saved behind the act", later, 0, 1);
        FerryRamp error = played("", "tick;");
        load(error, "quay ?;");
        error.undo();
        due("the error that came behind the act", error.errorPosition(), 5);
    }

    private static void undoCounts() {
        says("Returns the number of acts that can still be undone;");
        FerryRamp x = played("", "tick;".repeat(11));
        for (int left = 7; left >= 4; left--) {
            due("undo()", x.undo(), left);
            counts("undo()", x, 17, left);
            counts("undo()", x, 0, left + 3);
        }
        x.tick(20);
        counts("an act behind it", x, 17, 5);
        due("that act", x.undo(), 4);
        counts("is undone", x, 0, 7);
        for (int left = 3; left >= 0; left--) {
            due("undo()", x.undo(), left);
            counts("undo()", x, 0, left + 3);
        }

        says("NONE if there is none to undo.");
        due("more than 8", x.undo(), NONE);
        counts("nothing is undone", x, 0, 3);
        due("a new object", new FerryRamp().undo(), NONE);
        due("undone already", undone().undo(), NONE);
        FerryRamp refused = new FerryRamp();
        refused.crank(0);
        due("refused", refused.undo(), NONE);
        due("behind load()", ramp("car 0 5;").undo(), NONE);
        FerryRamp script = played("", "tick; tick 2; tick 3;");
        due("the commands of a script are undone one by one", script.undo(), 2);
        counts("the last one", script, 0, 3);
    }

    private static FerryRamp undone() {
        FerryRamp x = played("", "tick;");
        x.undo();
        return x;
    }

    private static void save() {
        says("Saves everything but the accounts, the acts that can be undone, the text buffer, the latest error, the output and the"
            + " saved states.");
        FerryRamp x = Look.busy();
        FerryRamp twin = Look.busy();
        String state = Look.state(x);
        x.save(0);
        same("save() changes nothing", Look.state(x), state);
        twin.save(0);
        same("save() changes no account", Look.accounts(x), Look.accounts(twin));
        counts("no act to undo is lost", x, 17, twin.count(17));
        x.tick(50);
        x.tick(50);
        x.arrive(3, 7);
        x.restore(0);
        same("everything is back", Look.state(x), state);
        x.tick(33);
        twin.tick(33);
        same("and goes on as it would have", Look.state(x), Look.state(twin));
        FerryRamp other = played("", "tick; tick;");
        other.save(0);
        load(other, "quay ?;");
        put(other, "quay 1;");
        other.crank(0);
        other.crank(1);
        other.writeLanes();
        other.restore(0);
        due("the accounts are not saved", other.account(0), 3);
        due("the accounts are not saved", other.account(1), 1);
        due("the acts that can be undone are not saved", other.count(17), 0);
        due("the text is not saved", Look.textLength(other), 7);
        due("the error is not saved", other.errorPosition(), 5);
        due("the output is not saved", other.output(0), 47);

        says("- `slot`: 0 or 1; a state that is already saved there is replaced");
        FerryRamp slots = played("", "tick;");
        slots.save(0);
        slots.tick(1);
        slots.save(1);
        slots.tick(1);
        slots.restore(0);
        counts("the slot 0", slots, 0, 1);
        slots.restore(1);
        counts("the slot 1", slots, 0, 2);
        slots.tick(5);
        slots.save(0);
        slots.restore(1);
        counts("the slot 1 still", slots, 0, 2);
        slots.restore(0);
        counts("the slot 0 replaced", slots, 0, 7);

        says("Throws `IllegalArgumentException` if slot is out of range");
        for (int slot : new int[] {-1, 2, MIN, MAX}) {
            argument("save(" + slot + ")", y -> y.save(slot));
        }
    }

    private static void restore() {
        says("Brings back a saved state, which stays saved;");
        FerryRamp x = Look.busy();
        String saved = Look.state(x);
        x.save(1);
        load(x, "tide 3 9 half 5; lanes 3 load 4 list 5; kind 1 1 1 1; winch 1 1 1; cross 1 patience 1; car 1 1;");
        x.tick(9);
        x.restore(1);
        same("its setup, too", Look.state(x), saved);
        x.tick(50);
        x.dismiss(1);
        x.arrive(0, 9);
        x.restore(1);
        same("it stays saved", Look.state(x), saved);
        x.restore(1);
        same("and again", Look.state(x), saved);
        FerryRamp texts = Look.busy();
        String before = Look.texts(texts) + Look.accounts(texts);
        texts.restore(0);
        same("the text, the error, the output and the accounts stay", Look.texts(texts) + Look.accounts(texts), before);

        says("no act can be undone then.");
        counts("acts to undo", x, 17, 0);
        due("undo()", x.undo(), NONE);
        same("nothing is undone", Look.state(x), saved);
        x.tick(1);
        due("the next act", x.undo(), 0);
        same("it is undone", Look.state(x), saved);

        says("- `slot`: 0 or 1");
        FerryRamp first = Look.busy();
        first.restore(0);
        counts("the slot 0", first, 0, 13);
        first.restore(1);
        counts("the slot 1", first, 0, 16);

        says("Throws `IllegalArgumentException` if slot is out of range");
        for (int slot : new int[] {-1, 2, MIN, MAX}) {
            argument("restore(" + slot + ")", y -> y.restore(slot));
            throwsArgument("restore(" + slot + ") with nothing saved", () -> new FerryRamp().restore(slot));
        }

        says("Throws `IllegalStateException` if nothing is saved there");
        for (int slot = 0; slot < 2; slot++) {
            int there = slot;
            FerryRamp one = ready();
            one.save(1 - slot);
            one.crank(3);
            throwsState("restore(" + slot + ")", () -> one.restore(there));
            counts("which changes nothing", one, 17, 4);
            one.undo();
            same("which changes nothing", Look.state(one), Look.state(ready()));
            one.restore(1 - slot);
            same("the other slot", Look.state(one), Look.state(ready()));
        }
    }
}
