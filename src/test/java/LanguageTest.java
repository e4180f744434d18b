import java.nio.file.Files;
import java.nio.file.Path;
import java.lang.reflect.Method;
import java.lang.reflect.Modifier;
import java.util.Arrays;
import java.util.HashSet;
import java.util.Set;
import java.util.regex.Matcher;
import java.util.regex.Pattern;

/** Those rules of ../shared/LANGUAGE.md that can be seen in the program. */
public final class LanguageTest {
    public static void main(String[] args) throws Exception {
        String text = Files.readString(Path.of("src/main/java/FerryRamp.java"));
        String code = withoutTexts(text);
        members();
        forbidden(code);
        methodLengths(code);
        Check.end();
    }

    private static String withoutTexts(String text) {
        return text.replaceAll("(?s)/\\*.*?\\*/", "").replaceAll("//[^\n]*", "").replaceAll("\"[^\"\n]*\"", "\"\"");
    }

    /** FaceTest looks at what is public; all else of the class is private, with names of its own. */
    private static void members() {
        Set<String> face = new HashSet<>();
        for (Method method : FerryRamp.class.getDeclaredMethods()) {
            if (Modifier.isPublic(method.getModifiers())) {
                face.add(method.getName());
            }
        }
        for (Method method : FerryRamp.class.getDeclaredMethods()) {
            boolean isPrivate = Modifier.isPrivate(method.getModifiers());
            if (!Modifier.isPublic(method.getModifiers()) && (!isPrivate || face.contains(method.getName()))) {
                Check.report("the method " + method.getName() + " is neither of the face nor private with a name of its own");
            }
        }
        for (java.lang.reflect.Field field : FerryRamp.class.getDeclaredFields()) {
            if (!Modifier.isPrivate(field.getModifiers()) && !field.getName().equals("NONE")) {
                Check.report("the field " + field.getName() + " is not private");
            }
        }
        Check.due("the classes inside, at most 11", Math.max(11, FerryRamp.class.getDeclaredClasses().length), 11);
    }

    private static void forbidden(String code) {
        for (String sign : Arrays.asList("\\bimport\\b", "\\bpackage\\b", "->", "::", "\\btry\\b", "\\bcatch\\b", "\\bfinally\\b",
            "\\bsynchronized\\b", "\\bassert\\b", "\\bstatic\\s*\\{", "\\bhashCode\\b", "\\btoString\\b", "\\bObject\\b",
            "\\bprotected\\b", "\\bvolatile\\b", "\\bnative\\b", "\\bvar\\b", "Exact\\b", "\"\"\\s*\\+", "\\+\\s*\"\"",
            "\\bMath\\b", "\\bThread\\b", "\\bRandom\\b", "\\bnanoTime\\b", "\\bcurrentTimeMillis\\b")) {
            Matcher found = Pattern.compile(sign).matcher(code);
            if (found.find()) {
                Check.report("the program holds " + found.group());
            }
        }
        Matcher system = Pattern.compile("\\bSystem\\.(\\w+)").matcher(code);
        while (system.find()) {
            Check.dueText("System.", system.group(1), "arraycopy");
        }
        Matcher loop = Pattern.compile("while \\(true\\)|for \\(;;|for \\([^;]*;\\s*;").matcher(code);
        if (loop.find()) {
            Check.report("a loop without an end: " + loop.group());
        }
    }

    private static void methodLengths(String code) {
        String[] lines = code.split("\n", -1);
        Pattern head = Pattern.compile("^(    |        )[a-z][\\w\\[\\] ]*\\(.*\\).*\\{$|^(    |        )[A-Z]\\w*\\(\\) \\{$");
        for (int from = 0; from < lines.length; from++) {
            Matcher found = head.matcher(lines[from]);
            if (!found.matches()) {
                continue;
            }
            String indent = found.group(1) != null ? found.group(1) : found.group(2);
            int to = from;
            while (to < lines.length && !lines[to].equals(indent + "}")) {
                to++;
            }
            if (to - from + 1 > 60) {
                Check.report("a method of " + (to - from + 1) + " lines: " + lines[from].trim());
            }
        }
    }
}
