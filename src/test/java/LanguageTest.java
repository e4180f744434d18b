import java.nio.file.Files;
import java.nio.file.Path;
import java.lang.reflect.Method;
import java.lang.reflect.Modifier;
import java.util.ArrayList;
import java.util.Arrays;
import java.util.Collections;
import java.util.HashSet;
import java.util.List;
import java.util.Set;
import java.util.regex.Matcher;
import java.util.regex.Pattern;

/** Those rules of ../shared/LANGUAGE.md that can be seen in the text of the program, and its face. */
public final class LanguageTest {
    private static final String FACE = "account(int) appendText(int) arrive(int,int) bestFirst(int) boardIn(int) call(int,int)"
        + " car(int,int) count(int) crank(int) deck(int) dismiss(int) easyIn(int) errorCode() errorPosition() fullness()"
        + " heaviest() kind(int,int) lane(int,boolean) laneFor(int) lip() list() load() meanWait() output(int) play()"
        + " queued(int) restore(int) save(int) setCross(int,int) setGate(boolean) setWinch(int,int,int) setting(int) slope()"
        + " standing(int,int) startIn() tick(int) tide(int) truncateText(int) undo() unload(int) wakesIn() waterIn(boolean)"
        + " wave(int) whyNot(int) writeLanes()";

    public static void main(String[] args) throws Exception {
        String text = Files.readString(Path.of("src/main/java/FerryRamp.java"));
        String code = withoutTexts(text);
        face();
        forbidden(code);
        methodLengths(code);
        Check.end();
    }

    private static String withoutTexts(String text) {
        return text.replaceAll("(?s)/\\*.*?\\*/", "").replaceAll("//[^\n]*", "").replaceAll("\"[^\"\n]*\"", "\"\"");
    }

    private static void face() throws Exception {
        List<String> names = new ArrayList<>();
        Set<String> plain = new HashSet<>();
        for (Method method : FerryRamp.class.getDeclaredMethods()) {
            if (Modifier.isPublic(method.getModifiers())) {
                List<String> types = new ArrayList<>();
                for (Class<?> type : method.getParameterTypes()) {
                    types.add(type.getName());
                }
                names.add(method.getName() + "(" + String.join(",", types) + ")");
                plain.add(method.getName());
            }
        }
        Collections.sort(names);
        Check.dueText("the public methods", String.join(" ", names), FACE);
        for (Method method : FerryRamp.class.getDeclaredMethods()) {
            boolean isPrivate = Modifier.isPrivate(method.getModifiers());
            if (!Modifier.isPublic(method.getModifiers()) && (!isPrivate || plain.contains(method.getName()))) {
                Check.report("the method " + method.getName() + " is neither of the face nor private with a name of its own");
            }
        }
        for (java.lang.reflect.Field field : FerryRamp.class.getDeclaredFields()) {
            if (!Modifier.isPrivate(field.getModifiers()) && !field.getName().equals("NONE")) {
                Check.report("the field " + field.getName() + " is not private");
            }
        }
        Check.due("the classes inside, at most 11", Math.max(11, FerryRamp.class.getDeclaredClasses().length), 11);
        Check.due("the constructors", FerryRamp.class.getDeclaredConstructors().length, 1);
        Check.due("double meanWait()", FerryRamp.class.getMethod("meanWait").getReturnType() == double.class ? 1 : 0, 1);
        Check.due("float fullness()", FerryRamp.class.getMethod("fullness").getReturnType() == float.class ? 1 : 0, 1);
    }

    private static void forbidden(String code) {
        for (String sign : Arrays.asList("\\bimport\\b", "\\bpackage\\b", "->", "::", "\\btry\\b", "\\bcatch\\b", "\\bfinally\\b",
            "\\bsynchronized\\b", "\\bassert\\b", "\\bstatic\\s*\\{", "\\bhashCode\\b", "\\btoString\\b", "\\bObject\\b",
            "\\bprotected\\b", "\\bvolatile\\b", "\\bnative\\b", "\\bvar\\b", "Exact\\b", "\"\"\\s*\\+", "\\+\\s*\"\"",
            "\\bMath\\b", "\\bThread\\b", "\\bRandom\\b", "\\bnanoTime\\b", "\\bcurrentTimeMillis\\b")) {
            Matcher found = Pattern.compile(sign).matcher(code);
            if (found.find()) {
                Check.report("the program holds " + found.group());
            }
        }
        Matcher system = Pattern.compile("\\bSystem\\.(\\w+)").matcher(code);
        while (system.find()) {
            Check.dueText("System.", system.group(1), "arraycopy");
        }
        Matcher loop = Pattern.compile("while \\(true\\)|for \\(;;|for \\([^;]*;\\s*;").matcher(code);
        if (loop.find()) {
            Check.report("a loop without an end: " + loop.group());
        }
    }

    private static void methodLengths(String code) {
        String[] lines = code.split("\n", -1);
        Pattern head = Pattern.compile("^(    |        )[a-z][\\w\\[\\] ]*\\(.*\\).*\\{$|^(    |        )[A-Z]\\w*\\(\\) \\{$");
        for (int from = 0; from < lines.length; from++) {
            Matcher found = head.matcher(lines[from]);
            if (!found.matches()) {
                continue;
            }
            String indent = found.group(1) != null ? found.group(1) : found.group(2);
            int to = from;
            while (to < lines.length && !lines[to].equals(indent + "}")) {
                to++;
            }
            if (to - from + 1 > 60) {
                Check.report("a method of " + (to - from + 1) + " lines: " + lines[from].trim());
            }
        }
    }
}
