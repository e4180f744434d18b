/** What the tests of the document's sentences share. */
class Sentences extends Check {
    static final int NONE = FerryRamp.NONE;
    static final int MIN = Integer.MIN_VALUE;
    static final int MAX = Integer.MAX_VALUE;

    /** The ramps on which calls that change nothing are tried, and how they are whole. */
    private static final Maker[] RAMPS = {Look::busy, Look::waiting};
    private static final String[] WHOLE = {Look.whole(Look.busy()), Look.whole(Look.waiting())};

    /** The acts, by the names that the lists below follow. */
    static final String[] NAMES = {"tick()", "arrive()", "wave()", "dismiss()", "unload()", "setGate()", "crank()",
        "setWinch()", "setCross()"};

    /** Each act in a form that is done on the ramp of ready(), and the command for it. */
    static final Act[] DONE = {x -> x.tick(3), x -> x.arrive(1, 9), x -> x.wave(2), x -> x.dismiss(1),
        x -> x.unload(0), x -> x.setGate(true), x -> x.crank(4), x -> x.setWinch(9, 9, 9), x -> x.setCross(9, 9)};
    static final String[] COMMANDS = {"tick 3;", "car 1 9;", "wave 2;", "dismiss 1;", "unload 0;", "gate open;", "crank 4;",
        "winch 9 9 9;", "cross 9 patience 9;"};

    Sentences() {
    }

    interface Maker {
        FerryRamp make();
    }

    interface Act {
        int on(FerryRamp x);
    }

    /** A new ramp with this setup, on which these commands were done, each of them. */
    static FerryRamp played(String setup, String... scripts) {
        FerryRamp x = ramp(setup);
        for (String script : scripts) {
            int commands = script.replaceAll("[^;]", "").length();
            int done = play(x, script);
            if (done != commands) {
                report("of \"" + script + "\" behind \"" + setup + "\" " + done + " commands were done");
            }
        }
        return x;
    }

    static void counts(String when, FerryRamp x, int what, int want) {
        due(when + ": count(" + what + ")", x.count(what), want);
    }

    static void same(String what, String got, String want) {
        String difference = Look.difference(got, want);
        if (!difference.isEmpty()) {
            report(what + ": " + difference);
        }
    }

    /** The call throws this, and changes nothing. */
    private static void throwing(String call, Look.Use use, Class<?> want) {
        changesNothing(call, x -> dueThrow(call, () -> use.on(x), want));
    }

    static void changesNothing(String call, Look.Use use) {
        for (int index = 0; index < RAMPS.length; index++) {
            FerryRamp x = RAMPS[index].make();
            String accounts = Look.accounts(x);
            use.on(x);
            same(call + " changes an account", Look.accounts(x), accounts);
            same(call + " changes something", Look.whole(x), WHOLE[index]);
        }
    }

    static void state(String call, Look.Use use) {
        throwing(call, use, IllegalStateException.class);
    }

    static void argument(String call, Look.Use use) {
        throwing(call, use, IllegalArgumentException.class);
    }

    static void index(String call, Look.Use use) {
        throwing(call, use, IndexOutOfBoundsException.class);
    }

    /** The act is refused with this reason, which changes the account of this reason alone. */
    static void refused(String setup, String script, String call, int reason, Act act) {
        FerryRamp x = played(setup, script);
        FerryRamp other = played(setup, script);
        due(call + " behind \"" + script + "\"", act.on(x), -reason);
        for (int what = 0; what < 5; what++) {
            due(call + ": account(" + what + ")", x.account(what), other.account(what) + (what == reason ? 1 : 0));
        }
        same(call + " changes something", Look.whole(x), Look.whole(other));
    }

    /** A ramp whose lanes weigh 40, 100 and 120, and have 29, 29 and 28 free; the sides may be 40 apart. */
    static FerryRamp leaning() {
        return leaning("");
    }

    static FerryRamp leaning(String more) {
        return played("lanes 30 load 9999 list 40; deck 0 sink 999; cross 1 patience 50; car 0 100; car 0 40; car 0 40;"
            + "car 0 40; car 0 80;" + more, "tick 6; unload 0;");
    }

    /** A car on deck, two in the queue, none on the ramp, and a closed gate; three acts were done. */
    static FerryRamp ready() {
        return played("car 0 5; car 0 6; car 0 7;", "tick 3; gate closed; tick;");
    }
}
