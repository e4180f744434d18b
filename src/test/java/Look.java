/** Everything that the calls tell of a ramp, as a text, to hold two ramps against one another. */
final class Look {
    private Look() {
    }

    interface Use {
        void on(FerryRamp x);
    }

    /** What save() saves. */
    static String state(FerryRamp x) {
        StringBuilder all = new StringBuilder();
        for (int what = 0; what < 17; what++) {
            add(all, "count " + what, x.count(what));
        }
        for (int what = 0; what < 14; what++) {
            add(all, "setting " + what, x.setting(what));
        }
        for (int what = 0; what < 12; what++) {
            add(all, "kind " + what / 3 + " " + what % 3, x.kind(what / 3, what % 3));
        }
        for (int car = 0; car < x.count(3); car++) {
            for (int what = 0; what < 7; what++) {
                add(all, "car " + car + " " + what, x.car(car, what));
            }
        }
        for (int index = 0; index <= x.count(1); index++) {
            add(all, "queued " + index, x.queued(index));
        }
        for (int lane = 0; lane < 3; lane++) {
            add(all, "weight " + lane, x.lane(lane, false));
            add(all, "free " + lane, x.lane(lane, true));
            for (int index = 0; index < 31 && (index == 0 || x.standing(lane, index - 1) >= 0); index++) {
                add(all, "standing " + lane + " " + index, x.standing(lane, index));
            }
        }
        for (int call = 0; call < Math.min(20, x.count(12)); call++) {
            for (int what = 0; what < 4; what++) {
                add(all, "call " + call + " " + what, x.call(call, what));
            }
        }
        add(all, "slope", x.slope());
        add(all, "lip", x.lip());
        add(all, "list", x.list());
        add(all, "heaviest", x.heaviest());
        add(all, "deck", x.deck(x.count(0)));
        return all.append("; meanWait ").append(x.meanWait()).append("; fullness ").append(x.fullness()).toString();
    }

    static String accounts(FerryRamp x) {
        StringBuilder all = new StringBuilder();
        for (int what = 0; what < 5; what++) {
            add(all, "account " + what, x.account(what));
        }
        return all.toString();
    }

    static String texts(FerryRamp x) {
        StringBuilder all = new StringBuilder();
        add(all, "errorCode", x.errorCode());
        add(all, "errorPosition", x.errorPosition());
        add(all, "length of the text", textLength(x));
        for (int index = 0; index == 0 || x.output(index - 1) >= 0; index++) {
            add(all, "output " + index, x.output(index));
        }
        return all.toString();
    }

    /** The length of the text, asked for without a change: only what is too long throws. */
    static int textLength(FerryRamp x) {
        for (int length = 500; length > 0; length--) {
            try {
                return x.truncateText(length);
            } catch (IllegalArgumentException tooLong) {
                continue;
            }
        }
        return 0;
    }

    /**
     * Everything but the accounts, also what undo(), restore() and the text would bring:
     * behind this look the ramp is another one.
     */
    static String whole(FerryRamp x) {
        StringBuilder all = new StringBuilder();
        all.append(state(x)).append(texts(x));
        add(all, "count 17", x.count(17));
        for (int left = x.count(17); left > 0; left--) {
            add(all, "undo()", x.undo());
            all.append(state(x));
        }
        for (int slot = 0; slot < 2; slot++) {
            try {
                x.restore(slot);
                all.append("; restore ").append(slot).append(state(x));
            } catch (IllegalStateException nothing) {
                all.append("; restore ").append(slot).append(" throws");
            }
        }
        add(all, "load()", x.load());
        return all.append(texts(x)).append(state(x)).toString();
    }

    private static void add(StringBuilder all, String what, int number) {
        all.append("; ").append(what).append(' ').append(number);
    }

    /** The first place where two looks differ. */
    static String difference(String got, String want) {
        String[] gots = got.split("; ");
        String[] wants = want.split("; ");
        for (int index = 0; index < gots.length && index < wants.length; index++) {
            if (!gots[index].equals(wants[index])) {
                return "\"" + gots[index] + "\" instead of \"" + wants[index] + "\"";
            }
        }
        return gots.length == wants.length ? "" : gots.length + " answers instead of " + wants.length;
    }

    /**
     * A ramp of which each part has something to lose: cars in the queue, on the ramp, on deck,
     * unloaded and dismissed, calls of the crew, a waking winch, acts to undo, two saved states,
     * accounts, an error, an output and a text.
     */
    static FerryRamp busy() {
        FerryRamp x = started();
        x.wave(5);
        x.tick(1);
        return texted(x);
    }

    /** The same ramp a tick before that: no car is on it, and the first one waits for the crew. */
    static FerryRamp waiting() {
        return texted(started());
    }

    private static FerryRamp started() {
        FerryRamp x = Check.ramp("tide -5 12 half 9; quay 4; deck 3 sink 20; lanes 6 load 300 list 90; kind 1 9 4 2;"
            + "kind 2 3 2 3; winch 2 3 3; cross 3 patience 2; car 1 40; car 2 50; car 0 30; car 0 60; car 3 20;"
            + "car 1 11; car 2 12; car 0 13;");
        x.tick(13);
        x.save(0);
        x.tick(3);
        x.unload(2);
        x.unload(1);
        x.arrive(1, 33);
        x.crank(0);
        x.crank(-1);
        x.dismiss(6);
        x.save(1);
        x.tick(8);
        return x;
    }

    private static FerryRamp texted(FerryRamp x) {
        x.writeLanes();
        Check.load(x, "quay 4; quay 5;");
        Check.put(x, "quay 77;");
        return x;
    }
}
