import java.lang.reflect.InvocationTargetException;
import java.lang.reflect.Method;
import java.util.ArrayList;
import java.util.Arrays;
import java.util.Comparator;
import java.util.List;
import java.util.Random;

/** Random runs of calls, the same on the program and on the model; the seeds are fixed. */
public final class RandomRunsTest {
    private static final int RUNS = 400;
    private static final int STEPS = 110;
    private static final int STEPS_BETWEEN_LOOKS = 4;

    private final Random random;
    private final FerryRamp ramp = new FerryRamp();
    private final Model model = new Model();
    private final List<String> log = new ArrayList<>();
    private boolean isSame = true;

    private RandomRunsTest(long seed) {
        random = new Random(seed);
    }

    public static void main(String[] args) throws Exception {
        int runs = args.length > 0 ? Integer.parseInt(args[0]) : RUNS;
        Method[] face = FerryRamp.class.getDeclaredMethods();
        List<Method> methods = new ArrayList<>();
        for (Method method : face) {
            if (java.lang.reflect.Modifier.isPublic(method.getModifiers())) {
                methods.add(method);
            }
        }
        methods.sort(Comparator.comparing(Method::getName));
        Check.due("the number of public methods", methods.size(), 46 - 1);
        for (int run = 0; run < runs; run++) {
            new RandomRunsTest(run).run(run, methods);
        }
        Check.end();
    }

    private void run(int run, List<Method> methods) throws Exception {
        if (random.nextInt(8) > 0) {
            feed(setup(), false);
            both("load");
        }
        for (int step = 0; step < STEPS && isSame; step++) {
            oneStep(methods);
            lookAtCounts();
            if (step % STEPS_BETWEEN_LOOKS == 0) {
                lookAtAll();
            }
        }
        if (!isSame) {
            Check.report("run " + run + ": " + String.join(" ", log));
        }
    }

    private void oneStep(List<Method> methods) throws Exception {
        int dice = random.nextInt(100);
        if (dice < 30) {
            both("tick", 1 + random.nextInt(random.nextInt(5) == 0 ? 50 : 5));
        } else if (dice < 45) {
            both("arrive", random.nextInt(4), 1 + random.nextInt(random.nextInt(4) == 0 ? 999 : 200));
        } else if (dice < 49) {
            feed(script(), random.nextInt(3) == 0);
            both("play");
        } else if (dice < 51) {
            feed(setup(), random.nextInt(2) == 0);
            both("load");
        } else if (dice < 55) {
            both(random.nextBoolean() ? "wave" : "dismiss", random.nextInt(12));
        } else if (dice < 58) {
            both("unload", random.nextInt(3));
        } else {
            Method method = methods.get(random.nextInt(methods.size()));
            Object[] values = new Object[method.getParameterCount()];
            for (int index = 0; index < values.length; index++) {
                boolean isFlag = method.getParameterTypes()[index] == boolean.class;
                values[index] = isFlag ? (Object) random.nextBoolean() : (Object) anyNumber();
            }
            both(method.getName(), values);
        }
    }

    private int anyNumber() {
        int[] edges = {-1, 0, 1, 2, 3, 4, 5, 7, 8, 17, 18, 19, 20, 21, 49, 50, 51, 59, 60, 61, 98, 99, 100, 199, 200,
            201, 999, 1000, -20, -21, Integer.MAX_VALUE, Integer.MIN_VALUE};
        int dice = random.nextInt(10);
        if (dice < 6) {
            return random.nextInt(6);
        }
        return dice < 8 ? edges[random.nextInt(edges.length)] : random.nextInt(100);
    }

    private void lookAtCounts() throws Exception {
        for (int what = -1; what <= 18; what++) {
            quietly("count", what);
        }
        quietly("slope");
        quietly("lip");
    }

    private void lookAtAll() throws Exception {
        for (int what = -1; what <= 14; what++) {
            quietly("setting", what);
        }
        for (int what = -1; what <= 7; what++) {
            for (int car = -1; car <= ramp.count(3); car++) {
                quietly("car", car, what);
            }
            quietly("account", what);
        }
        for (int what = -1; what <= 4; what++) {
            for (int number = -1; number <= Math.min(20, ramp.count(12)); number++) {
                quietly("call", number, what);
            }
            for (int kind = -1; kind <= 4; kind++) {
                quietly("kind", kind, what);
            }
        }
        for (int lane = -1; lane <= 3; lane++) {
            for (int index = -1; index <= 12; index++) {
                quietly("standing", lane, index);
            }
            quietly("lane", lane, true);
            quietly("lane", lane, false);
        }
        for (int index = -1; index <= 21; index++) {
            quietly("queued", index);
            quietly("whyNot", ramp.queued(index));
            quietly("laneFor", ramp.queued(index));
        }
        for (String name : Arrays.asList("errorCode", "errorPosition", "list", "heaviest", "meanWait", "fullness")) {
            quietly(name);
        }
        quietly("deck", ramp.count(0));
        quietly("waterIn", true);
        quietly("waterIn", false);
        for (int index = -1; index < 80; index++) {
            quietly("output", index);
        }
    }

    private void both(String name, Object... values) throws Exception {
        log.add(name + Arrays.toString(values));
        String got = answer(ramp, name, values);
        String want = answer(model, name, values);
        log.add("-> " + got);
        compare(name, values, got, want);
    }

    private void quietly(String name, Object... values) throws Exception {
        compare(name, values, answer(ramp, name, values), answer(model, name, values));
    }

    private void compare(String name, Object[] values, String got, String want) {
        if (!got.equals(want) && isSame) {
            isSame = false;
            log.add(name + Arrays.toString(values) + " answered " + got + ", due is " + want);
        }
    }

    private static final java.util.Map<String, Method> FOUND = new java.util.HashMap<>();

    private static String answer(Object target, String name, Object... values) throws Exception {
        try {
            return String.valueOf(find(target, name).invoke(target, values));
        } catch (InvocationTargetException thrown) {
            return thrown.getCause().getClass().getSimpleName();
        }
    }

    private static Method find(Object target, String name) {
        String key = target.getClass().getName() + "." + name;
        if (!FOUND.containsKey(key)) {
            for (Method method : target.getClass().getDeclaredMethods()) {
                if (method.getName().equals(name) && java.lang.reflect.Modifier.isPublic(method.getModifiers())) {
                    FOUND.put(key, method);
                }
            }
        }
        return FOUND.get(key);
    }

    // ---- texts

    private void feed(String text, boolean isSpoilt) throws Exception {
        StringBuilder all = new StringBuilder(text);
        if (isSpoilt && all.length() > 0) {
            spoil(all);
        }
        if (all.length() > 497) {
            all.setLength(497);
        }
        both("truncateText", 0);
        for (int index = 0; index < all.length(); index += 4) {
            int four = 0;
            for (int next = index; next < index + 4; next++) {
                four = four << 8 | (next < all.length() ? all.charAt(next) & 255 : 0);
            }
            both("appendText", four);
        }
        both("truncateText", all.length());
        log.add("\"" + all + "\"");
    }

    private void spoil(StringBuilder all) {
        String[] bits = {"-", ";", "A", "x", "0", "9", " ", "\n", "\u00e9", "tide ", "kind 0 1 1 1;", "car 0 5;", "half",
            "00000000000000000007", "99999999999999999999", "tick", "gate", "\t", "- ", "-0"};
        int place = random.nextInt(all.length());
        switch (random.nextInt(4)) {
            case 0:
                all.setLength(place);
                break;
            case 1:
                all.deleteCharAt(place);
                break;
            case 2:
                all.insert(place, bits[random.nextInt(bits.length)]);
                break;
            default:
                all.setCharAt(place, bits[random.nextInt(bits.length)].charAt(0));
                break;
        }
    }

    private String setup() {
        StringBuilder all = new StringBuilder();
        if (random.nextInt(4) > 0) {
            int low = random.nextInt(60) - 30;
            int high = low + random.nextInt(60);
            add(all, "tide", height(low), height(high), "half", number(1, random.nextInt(2) == 0 ? 99 : 12));
        }
        if (random.nextInt(2) == 0) {
            add(all, "quay", height(random.nextInt(60) - 30));
        }
        if (random.nextInt(2) == 0) {
            add(all, "deck", number(0, 20), "sink", number(1, random.nextInt(2) == 0 ? 20 : 200));
        }
        if (random.nextInt(2) == 0) {
            add(all, "lanes", number(1, 30), "load", number(1, random.nextInt(3) == 0 ? 9999 : 1500), "list",
                number(0, random.nextInt(3) == 0 ? 9999 : 300));
        }
        if (random.nextInt(2) == 0) {
            add(all, "winch", number(1, 6), number(0, 12), number(0, 5));
        }
        if (random.nextInt(2) == 0) {
            add(all, "cross", number(1, 5), "patience", number(1, 6));
        }
        for (int kind = 0; kind < 4; kind++) {
            if (random.nextInt(2) == 0) {
                add(all, "kind", String.valueOf(kind), number(0, 60), number(0, 20), number(1, 9));
            }
        }
        int cars = random.nextInt(random.nextInt(5) == 0 ? 24 : 8);
        for (int car = 0; car < cars; car++) {
            add(all, "car", number(0, 3), number(1, random.nextInt(4) == 0 ? 999 : 200));
        }
        return all.toString();
    }

    private String script() {
        StringBuilder all = new StringBuilder();
        int most = random.nextInt(4) == 0 ? 45 : 8;
        int many = random.nextInt(most);
        for (int command = 0; command < many; command++) {
            switch (random.nextInt(most > 8 ? 3 : 11)) {
                case 0: add(all, "tick"); break;
                case 1: add(all, "tick", number(1, 50)); break;
                case 2: add(all, "car", number(0, 3), number(1, 300)); break;
                case 3: add(all, "wave", number(0, 12)); break;
                case 4: add(all, "dismiss", number(0, 12)); break;
                case 5: add(all, "unload", number(0, 2)); break;
                case 6: add(all, "gate", "open"); break;
                case 7: add(all, "gate", "closed"); break;
                case 8: add(all, "crank", height(random.nextInt(42) - 20)); break;
                case 9: add(all, "winch", number(1, 20), number(0, 50), number(0, 20)); break;
                default: add(all, "cross", number(1, 20), "patience", number(1, 50)); break;
            }
        }
        return all.toString();
    }

    private void add(StringBuilder all, String... tokens) {
        for (String token : tokens) {
            boolean isGlued = random.nextInt(3) == 0 && all.length() > 0
                && Character.isDigit(all.charAt(all.length() - 1)) != Character.isDigit(token.charAt(0))
                && !(Character.isLetter(all.charAt(all.length() - 1)) && Character.isLetter(token.charAt(0)));
            if (!isGlued && all.length() > 0) {
                all.append(random.nextInt(6) == 0 ? "\n" : " ");
            }
            all.append(token);
        }
        all.append(random.nextInt(6) == 0 ? " ;" : ";");
    }

    private String height(int height) {
        String minus = random.nextInt(5) == 0 ? "- " : "-";
        return height < 0 ? minus + -height : String.valueOf(height);
    }

    private String number(int least, int most) {
        int dice = random.nextInt(400);
        if (dice == 0) {
            return String.valueOf(most + 1);
        }
        if (dice == 1 && least > 0) {
            return String.valueOf(least - 1);
        }
        return (dice < 10 ? "000" : "") + (least + random.nextInt(most - least + 1));
    }
}
