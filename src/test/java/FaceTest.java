import java.lang.reflect.Field;
import java.lang.reflect.Method;
import java.lang.reflect.Modifier;
import java.util.ArrayList;
import java.util.Arrays;
import java.util.List;
import java.util.regex.Matcher;
import java.util.regex.Pattern;
import java.util.stream.Collectors;

/** The section "The public face": its names, types and exceptions, and the heads of the promises. */
public final class FaceTest {
    private static final Pattern METHOD = Pattern.compile("public (\\w+) (\\w+)\\(([^)]*)\\)(?: throws ([\\w, ]+))?;");

    public static void main(String[] args) {
        List<String> due = new ArrayList<>();
        List<String> heads = new ArrayList<>();
        for (String line : Doc.face()) {
            Matcher method = METHOD.matcher(line.trim());
            if (method.matches()) {
                due.add(method.group(1) + " " + method.group(2) + "(" + types(method.group(3)) + ")"
                    + (method.group(4) == null ? "" : " throws " + method.group(4)));
                heads.add(line.trim().replaceAll("^public |;$", ""));
            }
        }
        Check.due("the methods of the document", due.size(), 45);
        methods(due);
        theClass();
        heads(heads);
        Check.end();
    }

    /** "int kind, int what" without the names. */
    private static String types(String parameters) {
        return Arrays.stream(parameters.split(",")).map(one -> one.trim().replaceAll(" .*", "")).collect(Collectors.joining(","));
    }

    private static void methods(List<String> due) {
        List<String> there = new ArrayList<>();
        for (Method method : FerryRamp.class.getDeclaredMethods()) {
            if (Modifier.isPublic(method.getModifiers())) {
                Check.due(method.getName() + "() is public and no more", method.getModifiers(), Modifier.PUBLIC);
                there.add(method.getReturnType().getSimpleName() + " " + method.getName() + "(" + names(method.getParameterTypes())
                    + ")" + (method.getExceptionTypes().length == 0 ? "" : " throws "
                    + names(method.getExceptionTypes()).replace(",", ", ")));
            }
        }
        for (String method : due) {
            if (!there.contains(method)) {
                Check.report("the program has no method " + method);
            }
        }
        for (String method : there) {
            if (!due.contains(method)) {
                Check.report("the document has no method " + method);
            }
        }
    }

    private static String names(Class<?>[] types) {
        return Arrays.stream(types).map(Class::getSimpleName).collect(Collectors.joining(","));
    }

    private static void theClass() {
        Class<?> ramp = FerryRamp.class;
        Check.due("the class is public and final", ramp.getModifiers(), Modifier.PUBLIC | Modifier.FINAL);
        Check.due("the class is no kind of another one", ramp.getSuperclass() == Object.class ? 1 : 0, 1);
        Check.due("interfaces", ramp.getInterfaces().length, 0);
        Check.due("constructors", ramp.getDeclaredConstructors().length, 1);
        Check.due("the constructor is public", ramp.getDeclaredConstructors()[0].getModifiers(), Modifier.PUBLIC);
        Check.due("it takes nothing", ramp.getDeclaredConstructors()[0].getParameterCount(), 0);
        Check.due("it throws nothing", ramp.getDeclaredConstructors()[0].getExceptionTypes().length, 0);
        Check.due("public fields", ramp.getFields().length, 1);
        for (Field field : ramp.getFields()) {
            Check.dueText("the constant", field.getType() + " " + field.getName(), "int NONE");
            Check.due("NONE is a constant", field.getModifiers(), Modifier.PUBLIC | Modifier.STATIC | Modifier.FINAL);
        }
        Check.due("NONE", FerryRamp.NONE, -1);
    }

    private static void heads(List<String> face) {
        List<String> heads = new ArrayList<>();
        heads.add("FerryRamp()");
        heads.addAll(face);
        String text = Doc.read();
        for (int promise = 1; promise <= 46; promise++) {
            int from = text.indexOf("`", text.indexOf("\n## Promise " + promise + ":")) + 1;
            Check.dueText("the head of the promise " + promise, text.substring(from, text.indexOf("`", from)), heads.get(promise - 1));
        }
    }
}
