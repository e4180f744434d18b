import java.nio.file.Files;
import java.nio.file.Path;
import java.util.regex.Matcher;
import java.util.regex.Pattern;

/** README.md: the lines of its examples stand here, in its order, and answer what it says. */
public final class ReadmeTest extends Check {
    public static void main(String[] args) throws Exception {
        examples();
        dueLines();
        end();
    }

    private static void examples() {
        FerryRamp ramp = new FerryRamp();
        int car = ramp.arrive(0, 50);
        due("the car that arrives", car, 0);
        int start = ramp.startIn();
        due("startIn()", start, 1);
        int boarded = ramp.tick(4);
        due("tick(4)", boarded, 1);
        int where = ramp.car(car, 2);
        due("where the car is", where, 2);
        int lane = ramp.car(car, 3);
        due("the lane of the car", lane, 0);
        int load = ramp.count(7);
        due("the load", load, 50);
        int open = ramp.setGate(true);
        due("setGate(true)", open, -1);
        ramp.save(1);
        int by = ramp.crank(-3);
        due("crank(-3)", by, 3);
        int unloaded = ramp.unload(0);
        due("unload(0)", unloaded, 0);
        int left = ramp.undo();
        due("undo()", left, 3);
        due("the car on deck behind undo()", ramp.standing(0, 0), 0);
        ramp.restore(1);
        int lip = ramp.lip();
        due("lip()", lip, 0);
        int none = ramp.undo();
        due("undo() behind restore()", none, FerryRamp.NONE);
        texts(ramp);
    }

    static void put(FerryRamp ramp, String text) {
        for (int from = 0; from < text.length(); from += 4) {
            int four = 0;
            for (int next = from; next < from + 4; next++) {
                four = four << 8 | (next < text.length() ? text.charAt(next) : ' ');
            }
            ramp.appendText(four);
        }
    }

    private static void texts(FerryRamp ramp) {
        put(ramp, "tide -20 40 half 12; quay 10; deck 5 sink 50; kind 1 60 12 3; car 1 80; car 0 40;");
        int waiting = ramp.load();
        due("load()", waiting, 2);
        int tide = ramp.tide(6);
        due("tide(6)", tide, 10);
        put(ramp, "gate closed; tick 4; gate open; tick 30; gate open; tick 9;");
        int done = ramp.play();
        due("play()", done, 4);
        int why = ramp.account(1);
        due("account(1)", why, 2);
        put(ramp, "tick 5; tick 51;");
        int wrong = ramp.play();
        due("play() of a text with an error", wrong, FerryRamp.NONE);
        int code = ramp.errorCode();
        due("errorCode()", code, 2);
        int position = ramp.errorPosition();
        due("errorPosition()", position, 13);
        StringBuilder lanes = new StringBuilder();
        int bytes = ramp.writeLanes();
        for (int index = 0; index < bytes; index++) {
            lanes.append((char) ramp.output(index));
        }
        dueText("writeLanes()", lanes.toString(), "0/7;1/9;/10;");
    }

    private static void dueLines() throws Exception {
        String here = Files.readString(Path.of("src/test/java/ReadmeTest.java"));
        int from = 0;
        int lines = 0;
        boolean isCode = false;
        for (String line : Files.readString(Path.of("README.md")).split("\n")) {
            if (line.startsWith("```")) {
                isCode = line.equals("```java");
            } else if (isCode) {
                from = dueLine(line, here, from);
                lines++;
            }
        }
        due("the lines of README.md's examples", lines, 39);
    }

    /** The line stands behind this place, and where it tells an answer, the next line asks for that one. */
    private static int dueLine(String line, String here, int from) {
        String code = line.replaceAll("\\s*// .*", "").trim();
        int place = here.indexOf(code + "\n", from);
        if (place < 0) {
            report("README.md has a line that no test has in its place: " + code);
            return from;
        }
        int end = place + code.length() + 1;
        Matcher told = Pattern.compile("// (-?\\d+|NONE)").matcher(line);
        if (told.find()) {
            String next = here.substring(end, here.indexOf("\n", end));
            if (!next.matches(".*\\bdue\\(.*, (FerryRamp\\.)?" + told.group(1) + "\\);")) {
                report("README.md tells another answer than its test: " + line);
            }
        }
        return end;
    }
}
