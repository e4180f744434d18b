/** The sentences of "Terms" on setups and scripts, and of the promises 1 to 7. */
final class TextSentences extends Sentences {
    private static final String TEN_CARS = "car 0 1;car 0 1;car 0 1;car 0 1;car 0 1;car 0 1;car 0 1;car 0 1;car 0 1;car 0 1;";
    private static final String TEN_TICKS = "tick;tick;tick;tick;tick;tick;tick;tick;tick;tick;";
    private static final String FORTY_TICKS = TEN_TICKS + TEN_TICKS + TEN_TICKS + TEN_TICKS;
    private static final String FULL_SETUP = "tide -9 9 half 9; quay 9; deck 9 sink 9; lanes 9 load 999 list 999; winch 9 9 9;"
        + "cross 9 patience 9; kind 0 9 9 9; kind 1 9 9 9; kind 2 9 9 9; kind 3 9 9 9; car 1 9;";

    static void run() {
        section("Terms");
        buffer();
        tokens();
        setups();
        scripts();
        ranges();
        rangesOfCommands();
        withoutStatements();
        statements();
        commands();
        errorPlaces();
        errorCodes();
        section("Promise 1");
        newObject();
        section("Promise 2");
        appendText();
        section("Promise 3");
        truncateText();
        section("Promise 4");
        load();
        section("Promise 5");
        play();
        section("Promise 6");
        errorCode();
        section("Promise 7");
        errorPosition();
    }

    private static String spaces(int many) {
        return " ".repeat(many);
    }

    /** The same text is wrong as a setup and as a script. */
    private static void wrongBoth(String text, int code, int position) {
        wrongSetup(text, code, position);
        wrongScript(text, code, position);
    }

    private static void rightSetup(String text) {
        FerryRamp x = new FerryRamp();
        due("load() of \"" + text + "\"", load(x, text) == NONE ? NONE : 0, 0);
        due("errorCode() of \"" + text + "\"", x.errorCode(), 0);
        due("errorPosition() of \"" + text + "\"", x.errorPosition(), NONE);
    }

    private static void rightScript(String text) {
        FerryRamp x = new FerryRamp();
        due("play() of \"" + text + "\"", play(x, text) == NONE ? NONE : 0, 0);
        due("errorCode() of \"" + text + "\"", x.errorCode(), 0);
        due("errorPosition() of \"" + text + "\"", x.errorPosition(), NONE);
    }

    private static void buffer() {
        plain("SETUPS AND SCRIPTS");
        says("Both are ASCII texts that are collected in a text buffer of at most 500 bytes.");
        FerryRamp x = new FerryRamp();
        due("a setup of 500 bytes", load(x, spaces(492) + "quay 77;"), 0);
        due("its last statement", x.setting(3), 77);
        due("a script of 500 bytes", play(x, spaces(492) + "tick 33;"), 1);
        counts("its last command", x, 0, 33);
        put(x, spaces(500));
        throwsState("501 bytes", () -> x.appendText(0x20202020));
        for (int sign : new int[] {128, 233, 255}) {
            wrongBoth("" + (char) sign, 1, 0);
        }
    }

    private static void tokens() {
        says("Their tokens are words (maximal runs of the letters a to z),");
        rightSetup("tide0 5half3;");
        wrongSetup("tide 0 5 half3quay 1;", 1, 14);
        wrongSetup("quayquay 1;", 1, 0);
        wrongSetup("quaya1;", 1, 0);
        wrongSetup("quayz1;", 1, 0);
        wrongSetup("qua y 1;", 1, 0);
        wrongScript("ticktick;", 1, 0);
        for (char sign : new char[] {'`', '{', 'A', 'Z', '@', '[', '_'}) {
            wrongBoth("" + sign, 1, 0);
        }
        wrongSetup("Quay 1;", 1, 0);
        wrongSetup("quaY 1;", 1, 0);
        wrongSetup("quay`1;", 1, 4);
        wrongSetup("quay{1;", 1, 4);
        wrongSetup("quayA1;", 1, 4);
        wrongSetup("quayZ1;", 1, 4);
        wrongScript("tickT;", 1, 4);

        says("numbers (maximal runs of the digits 0 to 9),");
        rightSetup("quay 90;");
        rightSetup("quay 09;");
        wrongSetup("quay 1 2;", 1, 7);
        wrongSetup("quay 5 01;", 1, 7);
        wrongSetup("quay 5/;", 1, 6);
        wrongSetup("quay 5:;", 1, 6);
        wrongSetup("quay 5.0;", 1, 6);
        wrongScript("tick 1 0;", 1, 7);
        rightScript("tick10;");

        says("minus signs and semicolons.");
        rightSetup("quay-5;");
        rightSetup("quay - 5 ;");
        wrongSetup("quay --5;", 1, 6);
        wrongSetup("quay +5;", 1, 5);
        wrongSetup("quay 5:", 1, 6);
        wrongSetup("quay 5,", 1, 6);
        wrongBoth(";", 1, 0);
        wrongBoth("-", 1, 0);

        says("Spaces (byte 32) and line feeds (byte 10) may stand before, between and behind tokens.");
        due("before, between and behind", ramp(" \n tide \n - \n 7 \n\n 8 \n half \n 5 \n ; \n ").setting(0), -7);
        due("line feeds alone", ramp("\nquay\n7\n;\n").setting(3), 7);
        counts("a script", played("", "\n \ntick \n 7 \n; tick\n;\n\n"), 0, 8);
        rightSetup(" \n ");
        rightScript(" \n ");
        for (char sign : new char[] {0, 1, 9, 11, 12, 13, 31, 33, 127, 160}) {
            wrongBoth("" + sign, 1, 0);
            wrongSetup("quay" + sign + "7;", 1, 4);
            wrongScript("tick" + sign + ";", 1, 4);
        }

        says("Numbers may have any number of digits.");
        due("zeros ahead", ramp("quay " + "0".repeat(480) + "123;").setting(3), 123);
        due("nothing but zeros", ramp("deck " + "0".repeat(480) + " sink 1;").setting(4), 0);
        counts("zeros ahead in a script", played("", "tick " + "0".repeat(480) + "12;"), 0, 12);
        wrongSetup("quay " + "9".repeat(490) + ";", 2, 5);
        wrongSetup("quay 4294967301;", 2, 5);
        wrongSetup("quay 18446744073709551621;", 2, 5);
        wrongSetup("quay 2147483648;", 2, 5);
        wrongSetup("deck 0 sink " + "0".repeat(400) + ";", 2, 12);
        wrongScript("tick " + "1".repeat(400) + ";", 2, 5);
        wrongScript("car 0 4294967297;", 2, 6);
    }

    private static String join(String[] tokens, int many) {
        StringBuilder text = new StringBuilder();
        for (int index = 0; index < many; index++) {
            text.append(index > 0 ? " " : "").append(tokens[index]);
        }
        return text.toString();
    }

    private static void wrong(boolean isSetup, String text, int code, int position) {
        if (isSetup) {
            wrongSetup(text, code, position);
        } else {
            wrongScript(text, code, position);
        }
    }

    /**
     * These tokens are right; without the last ones the text ends too early, and no token may be
     * another one: a word that is not allowed, a byte of no token, a semicolon too early.
     */
    private static void form(boolean isSetup, String whole) {
        String[] tokens = whole.split(" ");
        if (isSetup) {
            rightSetup(whole);
        } else {
            rightScript(whole);
        }
        for (int index = 0; index < tokens.length; index++) {
            String before = join(tokens, index) + (index > 0 ? " " : "");
            String behind = whole.substring(Math.min(whole.length(), before.length() + tokens[index].length()));
            wrong(isSetup, before + "x" + behind, 1, before.length());
            wrong(isSetup, before + "?" + behind, 1, before.length());
            if (index > 0) {
                wrong(isSetup, join(tokens, index), 1, before.length() - 1);
            }
            boolean mayEnd = tokens[index].equals(";") || tokens[0].equals("tick");
            if (!mayEnd) {
                wrong(isSetup, before + ";" + behind, 1, before.length());
            }
            if (Character.isLetter(tokens[index].charAt(0))) {
                wrong(isSetup, before + "7" + behind, 1, before.length());
                wrong(isSetup, before + tokens[index] + "s" + behind, 1, before.length());
                wrong(isSetup, before + tokens[index].substring(1) + behind, 1, before.length());
                wrong(isSetup, before + tokens[index].toUpperCase() + behind, 1, before.length());
                for (int place = 0; place < tokens[index].length(); place++) {
                    char[] signs = tokens[index].toCharArray();
                    signs[place]++;
                    wrong(isSetup, before + new String(signs) + behind, 1, before.length());
                }
            }
        }
        String unended = join(tokens, tokens.length - 1);
        wrong(isSetup, unended + " " + unended + " ;", 1, unended.length() + 1);
        wrong(isSetup, whole + " ;", 1, whole.length() + 1);
    }

    private static void setups() {
        says("setup = { statement \";\" }");
        due("no statement", ramp("").count(1), 0);
        due("one", ramp("car 0 5;").count(1), 1);
        due("two", ramp("car 0 5; car 0 5;").count(1), 2);
        wrongSetup("quay 5", 1, 6);
        wrongSetup("quay 5; deck 1 sink 1", 1, 21);
        wrongSetup("quay 5 deck 1 sink 1;", 1, 7);
        wrongSetup("quay 5;;", 1, 7);
        wrongSetup("tick;", 1, 0);
        wrongSetup("gate open;", 1, 0);
        wrongSetup("half 5;", 1, 0);

        says("statement = \"tide\" height height \"half\" HALF");
        form(true, "tide 1 2 half 3 ;");
        form(true, "tide - 2 - 1 half 3 ;");
        FerryRamp tide = ramp("tide -4 -3 half 2;");
        due("LOW", tide.setting(0), -4);
        due("HIGH", tide.setting(1), -3);
        due("HALF", tide.setting(2), 2);

        says("| \"quay\" height");
        form(true, "quay 7 ;");
        form(true, "quay - 7 ;");
        due("QUAY", ramp("quay 7;").setting(3), 7);
        due("QUAY below 0", ramp("quay -7;").setting(3), -7);

        says("| \"deck\" FREE \"sink\" SINK");
        form(true, "deck 3 sink 4 ;");
        wrongSetup("deck -3 sink 4;", 1, 5);
        due("FREE", ramp("deck 3 sink 4;").setting(4), 3);
        due("SINK", ramp("deck 3 sink 4;").setting(5), 4);

        says("| \"lanes\" LANE \"load\" LOAD \"list\" LIST");
        form(true, "lanes 3 load 4 list 5 ;");
        due("LANE", ramp("lanes 3 load 4 list 5;").setting(6), 3);
        due("LOAD", ramp("lanes 3 load 4 list 5;").setting(7), 4);
        due("LIST", ramp("lanes 3 load 4 list 5;").setting(8), 5);

        says("| \"kind\" KIND STEEP LIP LENGTH");
        form(true, "kind 2 4 5 6 ;");
        for (int what = 0; what < 3; what++) {
            due("kind(2, " + what + ")", ramp("kind 2 4 5 6;").kind(2, what), 4 + what);
        }

        says("| winch | cross | arrive");
        rightSetup("winch 1 2 3; cross 4 patience 5; car 1 6;");
        wrongSetup("arrive 1 6;", 1, 0);

        says("winch = \"winch\" PULL SLACK WAKE");
        form(true, "winch 1 2 3 ;");
        form(false, "winch 1 2 3 ;");
        for (int what = 9; what < 12; what++) {
            due("setting(" + what + ")", ramp("winch 1 2 3;").setting(what), what - 8);
            due("setting(" + what + ") by a script", played("", "winch 1 2 3;").setting(what), what - 8);
        }

        says("cross = \"cross\" CROSS \"patience\" PATIENCE");
        form(true, "cross 4 patience 7 ;");
        form(false, "cross 4 patience 7 ;");
        due("CROSS", ramp("cross 4 patience 7;").setting(12), 4);
        due("PATIENCE", ramp("cross 4 patience 7;").setting(13), 7);
        due("CROSS by a script", played("", "cross 4 patience 7;").setting(12), 4);
        due("PATIENCE by a script", played("", "cross 4 patience 7;").setting(13), 7);

        says("arrive = \"car\" KIND WEIGHT");
        form(true, "car 2 7 ;");
        form(false, "car 2 7 ;");
        due("its kind", ramp("car 2 7;").car(0, 0), 2);
        due("its weight", ramp("car 2 7;").car(0, 1), 7);
        due("its kind by a script", played("", "car 2 7;").car(0, 0), 2);
        due("its weight by a script", played("", "car 2 7;").car(0, 1), 7);

        says("height = [ \"-\" ] HEIGHT");
        due("without a minus", ramp("quay 5;").setting(3), 5);
        due("with a minus", ramp("quay -5;").setting(3), -5);
        due("minus 0", ramp("quay -0;").setting(3), 0);
        due("a minus apart", ramp("quay\n-\n5;").setting(3), -5);
        wrongSetup("quay 5-;", 1, 6);
        wrongSetup("quay - - 5;", 1, 7);
        wrongSetup("quay -;", 1, 6);
        wrongSetup("quay -", 1, 6);
    }

    private static void scripts() {
        says("script = { command \";\" }");
        due("no command", play(new FerryRamp(), ""), 0);
        due("one", play(new FerryRamp(), "tick;"), 1);
        due("two", play(new FerryRamp(), "tick; tick;"), 2);
        wrongScript("tick", 1, 4);
        wrongScript("tick; tick", 1, 10);
        wrongScript("tick tick;", 1, 5);
        wrongScript("tick;;", 1, 5);
        wrongScript("tide 0 0 half 1;", 1, 0);
        wrongScript("kind 0 1 1 1;", 1, 0);
        wrongScript("quay 1;", 1, 0);
        wrongScript("deck 1 sink 1;", 1, 0);
        wrongScript("lanes 1 load 1 list 1;", 1, 0);

        says("command = \"tick\" [ TICKS ]");
        form(false, "tick 7 ;");
        form(false, "tick ;");
        counts("tick", played("", "tick;"), 0, 1);
        counts("tick 7", played("", "tick 7;"), 0, 7);
        wrongScript("tick -7;", 1, 5);
        wrongScript("tick 7 8;", 1, 7);

        says("| arrive");
        counts("car", played("", "car 1 6;"), 1, 1);
        wrongScript("arrive 1 6;", 1, 0);

        says("| \"wave\" CAR");
        form(false, "wave 7 ;");
        due("wave", played("", "car 0 1; car 0 1; wave 1;").queued(0), 1);

        says("| \"dismiss\" CAR");
        form(false, "dismiss 7 ;");
        due("dismiss", played("", "car 0 1; dismiss 0;").car(0, 2), 4);

        says("| \"unload\" LANE-NUMBER");
        form(false, "unload 2 ;");
        due("unload", played("car 0 1;", "tick 4; unload 0;").car(0, 2), 3);

        says("| \"gate\" ( \"open\" | \"closed\" )");
        form(false, "gate open ;");
        form(false, "gate closed ;");
        wrongScript("gate open closed;", 1, 10);
        wrongScript("gate 1;", 1, 5);
        wrongScript("open;", 1, 0);
        counts("closed", played("", "gate closed;"), 16, 0);
        counts("open", played("", "gate closed; gate open;"), 16, 1);

        says("| \"crank\" height");
        form(false, "crank 7 ;");
        form(false, "crank - 7 ;");
        counts("crank", played("", "crank 7;"), 4, 7);
        counts("crank below 0", played("", "crank -7;"), 4, -7);

        says("| winch | cross");
        rightScript("winch 1 2 3; cross 4 patience 5;");
    }

    private interface Reader {
        int of(FerryRamp x);
    }

    /** A number of a setup from least to most; the reader tells it when it was read. */
    private static void range(String before, int least, int most, String behind, Reader reader) {
        for (int number : new int[] {least, least + 1, most - 1, most}) {
            String text = before + number + behind;
            FerryRamp x = new FerryRamp();
            due("load() of \"" + text + "\"", load(x, text) == NONE ? NONE : 0, 0);
            due("the number in \"" + text + "\"", reader.of(x), number);
        }
        if (least > 0) {
            wrongSetup(before + (least - 1) + behind, 2, before.length());
        }
        wrongSetup(before + (most + 1) + behind, 2, before.length());
    }

    private static void commandRange(String before, int least, int most, String behind) {
        rightScript(before + least + behind);
        rightScript(before + most + behind);
        if (least > 0) {
            wrongScript(before + (least - 1) + behind, 2, before.length());
        }
        wrongScript(before + (most + 1) + behind, 2, before.length());
    }

    private static void ranges() {
        says("HEIGHT is 0 to 500");
        range("tide 0 ", 0, 500, " half 1;", x -> x.setting(1));
        range("tide ", 0, 500, " 500 half 1;", x -> x.setting(0));
        range("tide -", 0, 500, " 500 half 1;", x -> -x.setting(0));
        range("tide -500 -", 0, 500, " half 1;", x -> -x.setting(1));
        range("quay ", 0, 500, ";", x -> x.setting(3));
        range("quay -", 0, 500, ";", x -> -x.setting(3));

        says("(of \"crank\" 0 to 20);");
        commandRange("crank ", 0, 20, ";");
        commandRange("crank -", 0, 20, ";");
        counts("the greatest", played("", "crank 20;"), 4, 20);
        counts("the least", played("", "crank -20;"), 4, -20);

        says("of \"tide\" LOW and HIGH (HIGH at least LOW).");
        rightSetup("tide 5 5 half 1;");
        rightSetup("tide -5 -5 half 1;");
        rightSetup("tide 500 500 half 1;");
        rightSetup("tide -500 -500 half 1;");
        rightSetup("tide 0 -0 half 1;");
        wrongSetup("tide 5 4 half 1;", 2, 7);
        wrongSetup("tide -5 -6 half 1;", 2, 9);
        wrongSetup("tide 0 -1 half 1;", 2, 8);
        wrongSetup("tide 500 499 half 1;", 2, 9);

        says("HALF is 1 to 99,");
        range("tide 0 5 half ", 1, 99, ";", x -> x.setting(2));
        says("FREE 0 to 300,");
        range("deck ", 0, 300, " sink 1;", x -> x.setting(4));
        says("SINK 1 to 999,");
        range("deck 0 sink ", 1, 999, ";", x -> x.setting(5));
        says("LANE 1 to 30,");
        range("lanes ", 1, 30, " load 1 list 0;", x -> x.setting(6));
        says("LOAD 1 to 9999,");
        range("lanes 1 load ", 1, 9999, " list 0;", x -> x.setting(7));
        says("LIST 0 to 9999,");
        range("lanes 1 load 1 list ", 0, 9999, ";", x -> x.setting(8));

        says("KIND 0 to 3,");
        for (int kind = 0; kind < 4; kind++) {
            due("LENGTH of the kind " + kind, ramp("kind " + kind + " 0 0 9;").kind(kind, 2), 9);
        }
        range("car ", 0, 3, " 1;", x -> x.car(0, 0));
        commandRange("car ", 0, 3, " 1;");
        wrongSetup("kind 4 0 0 1;", 2, 5);

        says("STEEP 0 to 500,");
        range("kind 2 ", 0, 500, " 0 1;", x -> x.kind(2, 0));
        says("LIP 0 to 99,");
        range("kind 2 0 ", 0, 99, " 1;", x -> x.kind(2, 1));
        says("LENGTH 1 to 9,");
        range("kind 2 0 0 ", 1, 9, ";", x -> x.kind(2, 2));
    }

    private static void rangesOfCommands() {
        says("PULL 1 to 20,");
        range("winch ", 1, 20, " 0 0;", x -> x.setting(9));
        commandRange("winch ", 1, 20, " 0 0;");
        says("SLACK 0 to 50,");
        range("winch 1 ", 0, 50, " 0;", x -> x.setting(10));
        commandRange("winch 1 ", 0, 50, " 0;");
        says("WAKE 0 to 20,");
        range("winch 1 0 ", 0, 20, ";", x -> x.setting(11));
        commandRange("winch 1 0 ", 0, 20, ";");
        says("CROSS 1 to 20,");
        range("cross ", 1, 20, " patience 1;", x -> x.setting(12));
        commandRange("cross ", 1, 20, " patience 1;");
        says("PATIENCE 1 to 50,");
        range("cross 1 patience ", 1, 50, ";", x -> x.setting(13));
        commandRange("cross 1 patience ", 1, 50, ";");
        says("WEIGHT 1 to 999,");
        range("car 0 ", 1, 999, ";", x -> x.car(0, 1));
        commandRange("car 0 ", 1, 999, ";");

        says("TICKS 1 to 50 (1 without it),");
        commandRange("tick ", 1, 50, ";");
        counts("the least", played("", "tick 1;"), 0, 1);
        counts("the greatest", played("", "tick 50;"), 0, 50);
        counts("without it", played("", "tick;"), 0, 1);

        says("CAR 0 to 59,");
        commandRange("wave ", 0, 59, ";");
        commandRange("dismiss ", 0, 59, ";");

        says("LANE-NUMBER 0 to 2.");
        commandRange("unload ", 0, 2, ";");
        FerryRamp lanes = played("cross 1 patience 50; car 0 5; car 0 5; car 0 5;", "tick 4; unload 2; unload 1; unload 0;");
        counts("each lane", lanes, 14, 3);
    }

    /** An empty setup, over a ramp in which nothing is as without statements. */
    private static FerryRamp emptied() {
        FerryRamp x = ramp(FULL_SETUP);
        due("load() of nothing", x.load(), 0);
        return x;
    }

    private static void dueSettings(int from, int... want) {
        for (int index = 0; index < want.length; index++) {
            int what = from + index;
            due("a new object: setting(" + what + ")", new FerryRamp().setting(what), want[index]);
            due("an empty setup: setting(" + what + ")", emptied().setting(what), want[index]);
            due("a setup of cars: setting(" + what + ")", ramp("car 0 5;").setting(what), want[index]);
        }
    }

    private static void withoutStatements() {
        says("Without statements: the tide from 0 to 0 with HALF 10,");
        dueSettings(0, 0, 0, 10);
        says("QUAY 0,");
        dueSettings(3, 0);
        says("FREE 0,");
        dueSettings(4, 0);
        says("SINK 100,");
        dueSettings(5, 100);
        says("LANE 10,");
        dueSettings(6, 10);
        says("LOAD 1000,");
        dueSettings(7, 1000);
        says("LIST 1000,");
        dueSettings(8, 1000);
        says("each kind with STEEP 100,");
        dueKinds(0, 100, 0);
        says("LIP 10");
        dueKinds(1, 10, 0);
        says("and LENGTH 1 more than its number,");
        dueKinds(2, 1, 1);
        says("PULL 2,");
        dueSettings(9, 2);
        says("SLACK 5,");
        dueSettings(10, 5);
        says("WAKE 2,");
        dueSettings(11, 2);
        says("CROSS 3,");
        dueSettings(12, 3);
        says("PATIENCE 5.");
        dueSettings(13, 5);
    }

    private static void dueKinds(int what, int first, int more) {
        for (int kind = 0; kind < 4; kind++) {
            int want = first + kind * more;
            due("a new object: kind(" + kind + ", " + what + ")", new FerryRamp().kind(kind, what), want);
            due("an empty setup: kind(" + kind + ", " + what + ")", emptied().kind(kind, what), want);
            due("other kinds told: kind(" + kind + ", " + what + ")",
                ramp("kind " + (kind + 1) % 4 + " 7 7 7;").kind(kind, what), want);
        }
    }

    private static void statements() {
        says("Cars of a setup arrive at the time 0;");
        FerryRamp x = played("", "tick 9;");
        load(x, "car 0 5; car 1 6;");
        due("the first one", x.car(0, 4), 0);
        due("the last one", x.car(1, 4), 0);
        counts("TIME", x, 0, 0);

        says("kinds count as they are told in the end.");
        FerryRamp late = ramp("lanes 9 load 99 list 9; car 0 5; kind 0 0 0 9;");
        due("LENGTH is told behind the car", late.laneFor(0), 0);
        late.tick(1);
        due("what is free", late.lane(0, true), 0);
        due("STEEP is told behind the car", ramp("car 0 5; quay 9; kind 0 8 0 1;").whyNot(0), 6);

        says("Each statement but \"kind\" and \"car\" can stand once;");
        String[] once = {"tide 1 2 half 3;", "quay 7;", "deck 3 sink 4;", "lanes 3 load 4 list 5;", "winch 1 2 3;",
            "cross 4 patience 7;"};
        StringBuilder all = new StringBuilder();
        for (String statement : once) {
            wrongSetup(statement + statement, 3, statement.length());
            wrongSetup(statement + "car 0 5;kind 1 1 1 1;" + statement, 3, statement.length() + 21);
            all.append(statement);
        }
        rightSetup(all.toString());
        rightSetup("car 0 5;car 0 5;kind 0 1 1 1;kind 1 1 1 1;");
        FerryRamp again = ramp(all.toString());
        due("once in each setup", load(again, all.toString()), 0);
        rightScript("winch 1 2 3; winch 1 2 3; cross 4 patience 7; cross 4 patience 7;");

        says("\"kind\" once for each kind.");
        rightSetup("kind 0 1 1 1;kind 1 1 1 1;kind 2 1 1 1;kind 3 1 1 1;");
        rightSetup("kind 3 1 1 1;kind 2 1 1 1;kind 1 1 1 1;kind 0 1 1 1;");
        for (int kind = 0; kind < 4; kind++) {
            wrongSetup("kind " + kind + " 1 1 1;kind " + kind + " 1 1 1;", 3, 18);
            FerryRamp kinds = ramp("kind " + kind + " 1 1 1;");
            due("once in each setup", load(kinds, "kind " + kind + " 1 1 1;"), 0);
        }

        says("At first END is DECK,");
        counts("a new object", new FerryRamp(), 4, 0);
        counts("LOW and FREE", ramp("tide -9 5 half 3; deck 7 sink 1;"), 4, -2);
        counts("the order does not count", ramp("car 0 5; deck 7 sink 1; tide 5 9 half 3;"), 4, 12);
        due("no lip", ramp("tide 5 9 half 3; deck 7 sink 1;").lip(), 0);

        says("the winch is asleep,");
        FerryRamp awake = played("winch 1 0 0;", "crank 9; tick;");
        counts("it was awake", awake, 5, 2);
        load(awake, "winch 1 0 0;");
        counts("a setup", awake, 5, 0);
        counts("a new object", new FerryRamp(), 5, 0);

        says("and the gate is open.");
        FerryRamp closed = played("", "gate closed;");
        load(closed, "");
        counts("a setup", closed, 16, 1);
        counts("a new object", new FerryRamp(), 16, 1);
    }

    private static void commands() {
        says("The commands are the acts (\"gate\": setGate(); \"winch\": setWinch(); \"cross\": setCross(); \"car\": arrive()).");
        String[] texts = {"tick;", "tick 50;", "car 3 999;", "wave 8;", "dismiss 8;", "unload 1;", "gate closed;", "crank -20;",
            "winch 20 50 19;", "cross 19 patience 50;", "tick 7;", "gate open;", "unload 2;", "car 0 1;", "gate open;"};
        Act[] acts = {x -> x.tick(1), x -> x.tick(50), x -> x.arrive(3, 999), x -> x.wave(8), x -> x.dismiss(8), x -> x.unload(1),
            x -> x.setGate(false), x -> x.crank(-20), x -> x.setWinch(20, 50, 19), x -> x.setCross(19, 50), x -> x.tick(7),
            x -> x.setGate(true), x -> x.unload(2), x -> x.arrive(0, 1), x -> x.setGate(true)};
        for (int act = 0; act < DONE.length; act++) {
            asOne(COMMANDS[act], DONE[act], ready(), ready());
        }
        FerryRamp manyByText = Look.busy();
        FerryRamp manyByCall = Look.busy();
        for (int index = 0; index < texts.length; index++) {
            asOne(texts[index], acts[index], Look.busy(), Look.busy());
            asOne(texts[index], acts[index], manyByText, manyByCall);
        }
        same("all of them", Look.whole(manyByText), Look.whole(manyByCall));
    }

    private static void asOne(String text, Act act, FerryRamp byText, FerryRamp byCall) {
        due("play() of \"" + text + "\"", play(byText, text), act.on(byCall) < 0 ? 0 : 1);
        byCall.truncateText(0);
        byCall.play();
        same("\"" + text + "\"", Look.accounts(byText), Look.accounts(byCall));
        same("\"" + text + "\"", Look.state(byText) + Look.texts(byText), Look.state(byCall) + Look.texts(byCall));
        counts("\"" + text + "\"", byText, 17, byCall.count(17));
    }

    private static void errorPlaces() {
        says("Errors: the parser reads the tokens from the first one on and stops at the first token that is wrong.");
        wrongSetup("quay 501; ?", 2, 5);
        wrongSetup("quay 5; quay 501; ?", 3, 8);
        wrongSetup("car 9 9999; ?", 2, 4);
        wrongSetup("quay ?; quay 501;", 1, 5);
        wrongSetup("kind 0 501 100 0", 2, 7);
        wrongSetup("tide 501 -5 whole", 2, 5);
        wrongScript("tick 51; ?", 2, 5);
        wrongScript("tick ?; tick 51;", 1, 5);

        says("The error position is the index of its first byte,");
        wrongSetup("  quays 5;", 1, 2);
        wrongSetup("quay 5; deck 5 sunk 7;", 1, 15);
        wrongSetup("quay 12345;", 2, 5);
        wrongSetup("quay -12345;", 2, 6);
        wrongSetup("quay\n\n 5; \n quay 6;", 3, 12);
        wrongScript("tick; \n\n ticks;", 1, 9);
        wrongBoth(spaces(499) + "?", 1, 499);

        says("or the length of the text if the text ends too early.");
        wrongSetup("quay", 1, 4);
        wrongSetup("quay  \n", 1, 7);
        wrongSetup("quay 5", 1, 6);
        wrongSetup("quay 5 \n\n", 1, 9);
        wrongSetup("tide -", 1, 6);
        wrongScript("gate ", 1, 5);
        wrongScript("tick; tick 5", 1, 12);
        wrongSetup("quay" + spaces(496), 1, 500);
        FerryRamp cut = new FerryRamp();
        put(cut, "quay 5;");
        cut.truncateText(6);
        due("a text that was cut", cut.load(), NONE);
        due("its end", cut.errorPosition(), 6);
    }

    private static void errorCodes() {
        says("The error code, of several the least,");
        wrongSetup(TEN_CARS + TEN_CARS + "cars 0 1;", 1, 160);
        wrongSetup(TEN_CARS + TEN_CARS + "7", 1, 160);
        wrongScript(FORTY_TICKS + "ticks;", 1, 200);
        wrongScript(FORTY_TICKS + ";", 1, 200);
        wrongScript(FORTY_TICKS + "?", 1, 200);
        wrongSetup("kind 0 1 1 1;kind 4 1 1 1;", 2, 18);
        wrongSetup("kind 0 1 1 1;kind -", 1, 18);

        says("is 1 if the token is not allowed there,");
        wrongSetup("half", 1, 0);
        wrongSetup("5", 1, 0);
        wrongSetup("quay quay", 1, 5);
        wrongSetup("deck -1 sink 1;", 1, 5);
        wrongSetup("car -1 1;", 1, 4);
        wrongScript("tick open;", 1, 5);
        wrongScript("gate 0;", 1, 5);
        wrongScript("wave -1;", 1, 5);

        says("if a byte belongs to no token,");
        wrongBoth("A", 1, 0);
        wrongBoth("\t", 1, 0);
        wrongSetup("quay 5 ?;", 1, 7);
        wrongSetup("quay (5);", 1, 5);
        wrongSetup("quay 5;\u0000", 1, 7);
        wrongSetup("quay 5;\u00ff", 1, 7);
        wrongScript("tick 5.;", 1, 6);

        says("or if the text ends too early;");
        wrongSetup("tide 0 5 half 3", 1, 15);
        wrongSetup("tide 0 5 half", 1, 13);
        wrongSetup("q", 1, 0);
        wrongScript("crank", 1, 5);
        wrongScript("tick", 1, 4);

        says("2 if a number is out of its range");
        wrongSetup("quay 501;", 2, 5);
        wrongSetup("deck 0 sink 0;", 2, 12);
        wrongSetup("car 0 0;", 2, 6);
        wrongScript("tick 0;", 2, 5);
        wrongScript("tick 51", 2, 5);
        wrongScript("crank 21", 2, 6);

        says("(the second height of \"tide\" if it is less than the first one, too: at its number);");
        wrongSetup("tide 7 6 half 1;", 2, 7);
        wrongSetup("tide 7 -7 half 1;", 2, 8);
        wrongSetup("tide 7 - 8 half 1;", 2, 9);
        wrongSetup("tide -7 -8", 2, 9);
        wrongSetup("tide 7 501 half 1;", 2, 7);
        wrongSetup("tide 7 -501 half 1;", 2, 8);

        says("3 for the first word of a statement that stands there already,");
        wrongSetup("quay 1; quay", 3, 8);
        wrongSetup("tide 0 0 half 1; tide half", 3, 17);
        wrongSetup("deck 0 sink 1; deck 301", 3, 15);
        wrongSetup("lanes 1 load 1 list 1; lanes", 3, 23);
        wrongSetup("winch 1 1 1; winch ?", 3, 13);
        wrongSetup("cross 1 patience 1; cross", 3, 20);

        says("and for the KIND of a \"kind\" that was told already;");
        wrongSetup("kind 2 1 1 1; kind 2 1 1 1;", 3, 19);
        wrongSetup("kind 2 1 1 1; kind 1 1 1 1; kind 002 ?", 3, 33);
        wrongSetup("kind 0 1 1 1; kind 0", 3, 19);

        says("4 for the word of a 21st \"car\" of a setup,");
        due("20 cars", load(new FerryRamp(), TEN_CARS + TEN_CARS), 20);
        wrongSetup(TEN_CARS + TEN_CARS + "car 0 1;", 4, 160);
        wrongSetup(TEN_CARS + TEN_CARS + "quay 5; car", 4, 168);
        wrongSetup(TEN_CARS + TEN_CARS + "\ncar ?", 4, 161);

        says("and for the first word of a 41st command.");
        due("40 commands", play(new FerryRamp(), FORTY_TICKS), 40);
        for (String word : new String[] {"tick", "car", "wave", "dismiss", "unload", "gate", "crank", "winch", "cross"}) {
            wrongScript(FORTY_TICKS + word, 4, 200);
            wrongScript(FORTY_TICKS + " " + word + " ?", 4, 201);
        }
    }

    private static void newObject() {
        says("Creates a ramp as with an empty setup,");
        same("a new object", Look.state(new FerryRamp()), Look.state(emptied()));
        counts("nothing to undo", new FerryRamp(), 17, 0);
        due("undo()", new FerryRamp().undo(), NONE);
        same("accounts", Look.accounts(new FerryRamp()), Look.accounts(ramp("")));
        says("with an empty text buffer");
        due("its length", Look.textLength(new FerryRamp()), 0);
        throwsArgument("truncateText(1)", () -> new FerryRamp().truncateText(1));
        due("the first bytes", new FerryRamp().appendText(0x20202020), 4);
        says("and no saved states.");
        throwsState("restore(0)", () -> new FerryRamp().restore(0));
        throwsState("restore(1)", () -> new FerryRamp().restore(1));
        FerryRamp one = new FerryRamp();
        one.save(0);
        one.arrive(0, 5);
        throwsState("of another object", () -> new FerryRamp().restore(0));
        due("objects share nothing", new FerryRamp().count(1), 0);
    }

    private static void appendText() {
        says("Appends four bytes to the text buffer, the highest byte of the parameter first.");
        FerryRamp x = new FerryRamp();
        x.appendText(0x71756179);
        x.appendText(0x2031323b);
        due("load()", x.load(), 0);
        due("QUAY", x.setting(3), 12);
        for (int place = 0; place < 4; place++) {
            x.appendText(0x20202020 ^ (0x20 ^ 0xff) << 8 * (3 - place));
            x.load();
            due("the byte " + place, x.errorPosition(), place);
        }
        x.appendText(-1);
        x.load();
        due("four bytes of 255", x.errorPosition(), 0);
        x.appendText(MIN);
        x.load();
        due("the byte 128 ahead", x.errorPosition(), 0);
        plain("- `fourBytes`: the bytes");

        says("Returns the length of the text in bytes.");
        for (int length = 4; length <= 500; length += 4) {
            due("appendText()", x.appendText(0x20202020), length);
        }
        x.truncateText(7);
        due("behind truncateText(7)", x.appendText(0x20202020), 11);

        says("Throws `IllegalStateException` if the text would be longer than 500 bytes");
        for (int length = 495; length <= 500; length++) {
            FerryRamp full = new FerryRamp();
            put(full, spaces(length));
            if (length <= 496) {
                due("from " + length, full.appendText(0x20202020), length + 4);
            } else {
                throwsState("from " + length, () -> full.appendText(0x20202020));
                due("the text stays as long", Look.textLength(full), length);
                due("the text stays", full.load(), 0);
            }
        }
    }

    private static void truncateText() {
        says("Cuts the text to its first bytes.");
        FerryRamp x = new FerryRamp();
        put(x, "quay 123;");
        x.truncateText(7);
        x.appendText(0x3b202020);
        x.load();
        due("QUAY", x.setting(3), 12);
        put(x, "?????");
        x.truncateText(0);
        due("to nothing", x.load(), 0);

        says("- `length`: the new length, 0 to the present length");
        put(x, "12345678");
        due("the present length", x.truncateText(8), 8);
        due("1 less", x.truncateText(7), 7);
        due("0", x.truncateText(0), 0);
        due("0 of nothing", x.truncateText(0), 0);

        says("Returns the new length.");
        put(x, spaces(500));
        due("500", x.truncateText(500), 500);
        due("1", x.truncateText(1), 1);

        says("Throws `IllegalArgumentException` if length is out of range");
        for (int length : new int[] {-1, 9, 500, MIN, MAX}) {
            argument("truncateText(" + length + ")", y -> y.truncateText(length));
        }
        throwsArgument("1 of nothing", () -> new FerryRamp().truncateText(1));
        put(x, spaces(500));
        throwsArgument("501 of 500", () -> x.truncateText(501));
        x.truncateText(3);
        throwsArgument("4 of 3", () -> x.truncateText(4));
    }

    private static void load() {
        says("Reads the text as a setup.");
        due("QUAY", ramp("quay 9;").setting(3), 9);
        wrongSetup("tick;", 1, 0);

        says("If it has no error, it replaces everything that acts can change;");
        String[] setups = {"", "car 0 5;", FULL_SETUP, "tide 0 9 half 4; car 2 3;"};
        for (String setup : setups) {
            FerryRamp x = Look.busy();
            x.boardIn(200);
            load(x, setup);
            same("load() of \"" + setup + "\"", Look.state(x), Look.state(ramp(setup)));
            x.tick(20);
            FerryRamp other = ramp(setup);
            other.tick(20);
            same("and a tick", Look.state(x), Look.state(other));
        }

        says("no act can be undone then.");
        FerryRamp x = Look.busy();
        load(x, "quay 1;");
        counts("acts to undo", x, 17, 0);
        due("undo()", x.undo(), NONE);
        due("nothing is undone", x.setting(3), 1);
        x.tick(1);
        counts("the next act", x, 17, 1);

        says("Accounts and saved states stay.");
        FerryRamp stay = Look.busy();
        String accounts = Look.accounts(stay);
        load(stay, "quay 1;");
        same("accounts", Look.accounts(stay), accounts);
        for (int slot = 0; slot < 2; slot++) {
            FerryRamp busy = Look.busy();
            busy.restore(slot);
            stay.restore(slot);
            same("the slot " + slot, Look.state(stay), Look.state(busy));
        }
        FerryRamp written = ready();
        written.writeLanes();
        load(written, "quay 1;");
        due("no act changes the output", written.output(0), '0');

        says("The text buffer is empty afterwards, also if there is an error.");
        FerryRamp text = ramp("quay 1;");
        due("without an error", Look.textLength(text), 0);
        load(text, "quay ?;");
        due("with an error", Look.textLength(text), 0);
        due("the next text", text.appendText(0x20202020), 4);

        says("Returns the number of cars that wait;");
        due("none", load(text, ""), 0);
        due("one", load(text, "car 0 5;"), 1);
        due("20", load(text, TEN_CARS + TEN_CARS), 20);

        says("NONE if the text has an error (then nothing else changes).");
        String[] wrong = {"?", "quay", "quay 5", "quay 501;", "quay 1; quay 2;", FULL_SETUP + "?", TEN_CARS + TEN_CARS + "car"};
        for (String setup : wrong) {
            FerryRamp same = Look.busy();
            FerryRamp busy = Look.busy();
            due("load() of \"" + setup + "\"", load(same, setup), NONE);
            load(busy, "?");
            same("accounts", Look.accounts(same), Look.accounts(busy));
            same("the state", Look.state(same), Look.state(Look.busy()));
            put(busy, setup);
            due("load() once more", busy.load(), NONE);
            same("acts to undo and saved states", Look.whole(same), Look.whole(busy));
        }
        FerryRamp undone = ready();
        load(undone, "quay 5; ?");
        counts("acts to undo", undone, 17, 3);
        due("undo()", undone.undo(), 2);
        counts("it undoes the act", undone, 0, 3);
    }

    private static void play() {
        says("Reads the text as a script and, if it has no error, does its commands one after the other;");
        FerryRamp x = new FerryRamp();
        due("play()", play(x, "car 1 5; tick 2; crank 3;"), 2);
        due("in their order", play(x, "dismiss 0; car 2 6; tick; tick 3; dismiss 1;"), 0);
        FerryRamp order = played("", "car 1 5; car 2 6; wave 1; dismiss 0; crank 3; tick;");
        counts("the last car drives", order, 8, 1);
        counts("no other one waits", order, 1, 0);
        FerryRamp acts = new FerryRamp();
        acts.arrive(1, 5);
        acts.arrive(2, 6);
        acts.wave(1);
        acts.dismiss(0);
        acts.crank(3);
        acts.tick(1);
        same("as the acts themselves", Look.accounts(order), Look.accounts(acts));
        same("as the acts themselves", Look.whole(order), Look.whole(acts));

        says("it stops at the first one that is refused.");
        FerryRamp stops = new FerryRamp();
        play(stops, "tick; gate open; tick; gate open;");
        counts("what stands behind it is not done", stops, 0, 1);
        due("it is refused once", stops.account(1), 1);
        due("the acts that were done", stops.account(0), 1);
        due("no error", stops.errorCode(), 0);
        play(stops, "tick; crank 1; car 0 5; tick; crank 1; tick 9;");
        due("with its own reason", stops.account(2), 1);
        counts("up to it all is done", stops, 0, 3);

        says("The text buffer is empty afterwards, also if there is an error.");
        due("without an error", Look.textLength(stops), 0);
        play(stops, "tick ?;");
        due("with an error", Look.textLength(stops), 0);
        play(stops, "crank 0; tick;");
        due("with a refusal", Look.textLength(stops), 0);
        due("the next text", stops.appendText(0x20202020), 4);

        says("Returns the number of commands that were done;");
        due("none", play(stops, ""), 0);
        due("40", play(stops, FORTY_TICKS), 40);
        due("the first one is refused", play(stops, "gate open; tick;"), 0);
        due("the second one is refused", play(stops, "tick; gate open;"), 1);
        due("car 0", play(new FerryRamp(), "car 0 5; tick 4; unload 0; tick;"), 4);

        says("NONE if the text has an error (then nothing else changes).");
        String[] wrong = {"?", "tick", "tick 51;", "tick; car 0 5; gate closed; tick 0;", FORTY_TICKS + "tick;"};
        for (String script : wrong) {
            FerryRamp same = Look.busy();
            FerryRamp busy = Look.busy();
            due("play() of \"" + script + "\"", play(same, script), NONE);
            same("the state", Look.state(same), Look.state(busy));
            same("accounts", Look.accounts(same), Look.accounts(busy));
            load(busy, "?");
            load(same, "?");
            same("acts to undo and saved states", Look.whole(same), Look.whole(busy));
        }
        FerryRamp undone = ready();
        play(undone, "tick; ?");
        due("undo()", undone.undo(), 2);
    }

    private static void errorCode() {
        says("Returns the error code of the latest load() or play();");
        FerryRamp x = new FerryRamp();
        load(x, "quay 501;");
        due("of load()", x.errorCode(), 2);
        play(x, "tick ?;");
        due("of play()", x.errorCode(), 1);
        load(x, "quay 1; quay 1;");
        due("of load() again", x.errorCode(), 3);
        x.undo();
        x.tick(1);
        x.undo();
        x.save(0);
        x.restore(0);
        put(x, "quay 5;");
        due("other calls leave it", x.errorCode(), 3);
        play(x, FORTY_TICKS + "tick;");
        due("of the latest one", x.errorCode(), 4);

        says("0 if its text had no error, or if there was no such call.");
        due("no such call", new FerryRamp().errorCode(), 0);
        load(x, "quay 1;");
        due("load() without an error", x.errorCode(), 0);
        play(x, "tick ?;");
        play(x, "tick;");
        due("play() without an error", x.errorCode(), 0);
        play(x, "tick ?;");
        play(x, "crank 0;");
        due("a refusal is no error", x.errorCode(), 0);
    }

    private static void errorPosition() {
        says("Returns the error position of the latest load() or play();");
        FerryRamp x = new FerryRamp();
        load(x, "quay 501;");
        due("of load()", x.errorPosition(), 5);
        play(x, "tick 1 ?;");
        due("of play()", x.errorPosition(), 7);
        x.tick(1);
        x.undo();
        x.save(0);
        x.restore(0);
        put(x, "quay 5;");
        due("other calls leave it", x.errorPosition(), 7);
        load(x, "?");
        due("of load() again", x.errorPosition(), 0);

        says("NONE if its text had no error, or if there was no such call.");
        due("no such call", new FerryRamp().errorPosition(), NONE);
        load(x, "quay 1;");
        due("load() without an error", x.errorPosition(), NONE);
        play(x, "tick ?;");
        play(x, "tick;");
        due("play() without an error", x.errorPosition(), NONE);
        play(x, "tick ?;");
        play(x, "crank 0;");
        due("a refusal is no error", x.errorPosition(), NONE);
    }
}
