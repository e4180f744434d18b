import java.nio.file.Files;
import java.nio.file.Path;
import java.lang.reflect.Method;
import java.lang.reflect.Modifier;
import java.util.ArrayList;
import java.util.Arrays;
import java.util.HashMap;
import java.util.HashSet;
import java.util.LinkedHashMap;
import java.util.List;
import java.util.Map;
import java.util.Set;
import java.util.regex.Matcher;
import java.util.regex.Pattern;

/** Those rules of ../shared/LANGUAGE.md that can be seen in the program. */
public final class LanguageTest {
    public static void main(String[] args) throws Exception {
        String text = Files.readString(Path.of("src/main/java/FerryRamp.java"));
        String code = withoutTexts(text);
        members();
        forbidden(code);
        methodLengths(code);
        callDepths(code);
        Check.end();
    }

    private static String withoutTexts(String text) {
        return text.replaceAll("(?s)/\\*.*?\\*/", "").replaceAll("//[^\n]*", "").replaceAll("\"[^\"\n]*\"", "\"\"");
    }

    /** FaceTest looks at what is public; all else of the class is private, with names of its own. */
    private static void members() {
        Set<String> face = new HashSet<>();
        for (Method method : FerryRamp.class.getDeclaredMethods()) {
            if (Modifier.isPublic(method.getModifiers())) {
                face.add(method.getName());
            }
        }
        for (Method method : FerryRamp.class.getDeclaredMethods()) {
            boolean isPrivate = Modifier.isPrivate(method.getModifiers());
            if (!Modifier.isPublic(method.getModifiers()) && (!isPrivate || face.contains(method.getName()))) {
                Check.report("the method " + method.getName() + " is neither of the face nor private with a name of its own");
            }
        }
        for (Class<?> inside : FerryRamp.class.getDeclaredClasses()) {
            for (Method method : inside.getDeclaredMethods()) {
                if (face.contains(method.getName())) {
                    Check.report("a method inside bears the name of the face's " + method.getName());
                }
            }
        }
        for (java.lang.reflect.Field field : FerryRamp.class.getDeclaredFields()) {
            if (!Modifier.isPrivate(field.getModifiers()) && !field.getName().equals("NONE")) {
                Check.report("the field " + field.getName() + " is not private");
            }
        }
        Check.due("the classes inside, at most 11", Math.max(11, FerryRamp.class.getDeclaredClasses().length), 11);
    }

    private static void forbidden(String code) {
        for (String sign : Arrays.asList("\\bimport\\b", "\\bpackage\\b", "->", "::", "\\btry\\b", "\\bcatch\\b", "\\bfinally\\b",
            "\\bsynchronized\\b", "\\bassert\\b", "\\bstatic\\s*\\{", "\\bhashCode\\b", "\\btoString\\b", "\\bObject\\b",
            "\\bprotected\\b", "\\bvolatile\\b", "\\bnative\\b", "\\bvar\\b", "Exact\\b", "\"\"\\s*\\+", "\\+\\s*\"\"",
            "\\bMath\\b", "\\bThread\\b", "\\bRandom\\b", "\\bnanoTime\\b", "\\bcurrentTimeMillis\\b")) {
            Matcher found = Pattern.compile(sign).matcher(code);
            if (found.find()) {
                Check.report("the program holds " + found.group());
            }
        }
        Matcher system = Pattern.compile("\\bSystem\\.(\\w+)").matcher(code);
        while (system.find()) {
            Check.dueText("System.", system.group(1), "arraycopy");
        }
        Matcher loop = Pattern.compile("while \\(true\\)|for \\(;;|for \\([^;]*;\\s*;").matcher(code);
        if (loop.find()) {
            Check.report("a loop without an end: " + loop.group());
        }
    }

    private static final Pattern HEAD = Pattern.compile(
        "^(    |        )[a-z][\\w\\[\\] ]*\\b(\\w+)\\(.*\\).*\\{$|^(    |        )(?:public )?([A-Z]\\w*)\\(\\) \\{$");

    /** The methods by their names, which are told once each, with their lines. */
    private static Map<String, String> methods(String code) {
        Map<String, String> bodies = new LinkedHashMap<>();
        String[] lines = code.split("\n", -1);
        for (int from = 0; from < lines.length; from++) {
            Matcher found = HEAD.matcher(lines[from]);
            if (found.matches()) {
                String indent = found.group(1) != null ? found.group(1) : found.group(3);
                String name = found.group(2) != null ? found.group(2) : "new " + found.group(4);
                StringBuilder body = new StringBuilder();
                for (int to = from + 1; to < lines.length && !lines[to].equals(indent + "}"); to++) {
                    body.append(lines[to]).append('\n');
                }
                if (bodies.put(name, body.toString()) != null) {
                    Check.report("two methods have the name " + name);
                }
            }
        }
        return bodies;
    }

    private static void methodLengths(String code) {
        for (Map.Entry<String, String> method : methods(code).entrySet()) {
            int lines = method.getValue().split("\n").length + 2;
            if (lines > 60) {
                Check.report("a method of " + lines + " lines: " + method.getKey());
            }
        }
    }

    private static List<Method> allMethods() {
        List<Method> all = new ArrayList<>(Arrays.asList(FerryRamp.class.getDeclaredMethods()));
        for (Class<?> inside : FerryRamp.class.getDeclaredClasses()) {
            all.addAll(Arrays.asList(inside.getDeclaredMethods()));
        }
        return all;
    }

    private static void callDepths(String code) {
        Map<String, String> bodies = methods(code);
        for (Method method : allMethods()) {
            if (!bodies.containsKey(method.getName())) {
                Check.report("no lines are found of the method " + method.getName());
            }
        }
        Map<String, Integer> depths = new HashMap<>();
        int deepest = 0;
        for (String method : bodies.keySet()) {
            deepest = Math.max(deepest, depth(method, bodies, depths));
        }
        Check.due("the deepest chain of calls", deepest, 8);
    }

    private static int depth(String method, Map<String, String> bodies, Map<String, Integer> depths) {
        Integer known = depths.get(method);
        if (known != null) {
            if (known == 0) {
                Check.report("a recursion through " + method);
            }
            return known;
        }
        depths.put(method, 0);
        int below = 0;
        for (String other : bodies.keySet()) {
            if (Pattern.compile("\\b" + other + "\\(").matcher(bodies.get(method)).find()) {
                below = Math.max(below, depth(other, bodies, depths));
            }
        }
        depths.put(method, below + 1);
        return below + 1;
    }
}
