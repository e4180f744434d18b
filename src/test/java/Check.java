/** What the tests share: answers that are due, exceptions that are due, texts for the buffer. */
class Check {
    private static int wrong = 0;
    private static String section = "";
    private static String sentence = "";

    Check() {
    }

    /** The section of the document that the next sentences stand in. */
    static void section(String name) {
        section = name;
        sentence = "";
    }

    /** The sentence of the document that the next answers are due by. */
    static void says(String words) {
        Doc.quote(section, words);
        sentence = section + ", \"" + words + "\": ";
    }

    /** Words of the document that no call can break. */
    static void plain(String words) {
        Doc.quote(section, words);
    }

    interface Call {
        void run();
    }

    static void due(String call, double got, double want) {
        if (got != want) {
            report(call + " answered " + got + ", due is " + want);
        }
    }

    static void dueText(String call, String got, String want) {
        if (!got.equals(want)) {
            report(call + " answered \"" + got + "\", due is \"" + want + "\"");
        }
    }

    static void report(String what) {
        wrong++;
        System.out.println(sentence + what);
    }

    static void throwsState(String call, Call it) {
        dueThrow(call, it, IllegalStateException.class);
    }

    static void throwsArgument(String call, Call it) {
        dueThrow(call, it, IllegalArgumentException.class);
    }

    static void throwsIndex(String call, Call it) {
        dueThrow(call, it, IndexOutOfBoundsException.class);
    }

    static void dueThrow(String call, Call it, Class<?> want) {
        Class<?> got = null;
        try {
            it.run();
        } catch (RuntimeException thrown) {
            got = thrown.getClass();
        }
        if (got != want) {
            report(call + " threw " + got + ", due is " + want);
        }
    }

    static void put(FerryRamp ramp, String text) {
        int length = ramp.truncateText(0);
        for (int index = 0; index < text.length(); index += 4) {
            int four = 0;
            for (int next = index; next < index + 4; next++) {
                four = four << 8 | (next < text.length() ? text.charAt(next) : 0);
            }
            if (length + 4 > 500) {
                throw new IllegalArgumentException("the buffer takes 500 bytes in fours");
            }
            length = ramp.appendText(four);
        }
        ramp.truncateText(text.length());
    }

    static int load(FerryRamp ramp, String text) {
        put(ramp, text);
        return ramp.load();
    }

    static int play(FerryRamp ramp, String text) {
        put(ramp, text);
        return ramp.play();
    }

    /** A new ramp with this setup, which must have no error. */
    static FerryRamp ramp(String setup) {
        FerryRamp ramp = new FerryRamp();
        if (load(ramp, setup) == FerryRamp.NONE) {
            report("the setup \"" + setup + "\" has the error " + ramp.errorCode() + " at " + ramp.errorPosition());
        }
        return ramp;
    }

    static void wrongSetup(String text, int code, int position) {
        FerryRamp ramp = new FerryRamp();
        due("load() of \"" + text + "\"", load(ramp, text), FerryRamp.NONE);
        due("errorCode() of \"" + text + "\"", ramp.errorCode(), code);
        due("errorPosition() of \"" + text + "\"", ramp.errorPosition(), position);
    }

    static void wrongScript(String text, int code, int position) {
        FerryRamp ramp = new FerryRamp();
        due("play() of \"" + text + "\"", play(ramp, text), FerryRamp.NONE);
        due("errorCode() of \"" + text + "\"", ramp.errorCode(), code);
        due("errorPosition() of \"" + text + "\"", ramp.errorPosition(), position);
    }

    static String output(FerryRamp ramp) {
        StringBuilder text = new StringBuilder();
        int length = ramp.writeLanes();
        for (int index = 0; index < length; index++) {
            text.append((char) ramp.output(index));
        }
        return text.toString();
    }

    static void end() {
        if (wrong > 0) {
            System.out.println(wrong + " answers are not as due");
            System.exit(1);
        }
    }
}
