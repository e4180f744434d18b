import java.util.ArrayDeque;
import java.util.ArrayList;
import java.util.Arrays;
import java.util.List;

/**
 * The document once more, written for plainness alone: everything that follows from the cars is
 * counted anew at each question. RandomRunsTest holds the program against it.
 */
public final class Model {
    private static final int NONE = -1;

    private static final class Car implements Cloneable {
        int kind;
        int weight;
        int where = 0;
        int lane = NONE;
        int arrived;
        int began = NONE;
        int boarded = NONE;

        Car copy() {
            Car car = new Car();
            car.kind = kind;
            car.weight = weight;
            car.where = where;
            car.lane = lane;
            car.arrived = arrived;
            car.began = began;
            car.boarded = boarded;
            return car;
        }
    }

    private static final class State {
        int low = 0, high = 0, half = 10, quay = 0, free = 0, sink = 100, laneLength = 10;
        int loadMost = 1000, listMost = 1000, pull = 2, slack = 5, wake = 2, cross = 3, patience = 5;
        int[][] kinds = {{100, 10, 1}, {100, 10, 2}, {100, 10, 3}, {100, 10, 4}};
        int time = 0, end = 0, winch = 0, left = 0, ramp = NONE, driven = 0, stood = 0, waiting = 0;
        int calls = 0, boarded = 0, unloaded = 0, greatest = 0;
        boolean open = true;
        List<Car> cars = new ArrayList<>();
        List<Integer> queue = new ArrayList<>();
        List<List<Integer>> lanes = new ArrayList<>();
        List<int[]> latestCalls = new ArrayList<>();

        State() {
            for (int lane = 0; lane < 3; lane++) {
                lanes.add(new ArrayList<>());
            }
        }

        State copy() {
            State s = new State();
            s.low = low;
            s.high = high;
            s.half = half;
            s.quay = quay;
            s.free = free;
            s.sink = sink;
            s.laneLength = laneLength;
            s.loadMost = loadMost;
            s.listMost = listMost;
            s.pull = pull;
            s.slack = slack;
            s.wake = wake;
            s.cross = cross;
            s.patience = patience;
            for (int kind = 0; kind < 4; kind++) {
                s.kinds[kind] = kinds[kind].clone();
            }
            s.time = time;
            s.end = end;
            s.winch = winch;
            s.left = left;
            s.ramp = ramp;
            s.driven = driven;
            s.stood = stood;
            s.waiting = waiting;
            s.calls = calls;
            s.boarded = boarded;
            s.unloaded = unloaded;
            s.greatest = greatest;
            s.open = open;
            for (Car car : cars) {
                s.cars.add(car.copy());
            }
            s.queue.addAll(queue);
            for (int lane = 0; lane < 3; lane++) {
                s.lanes.get(lane).addAll(lanes.get(lane));
            }
            for (int[] call : latestCalls) {
                s.latestCalls.add(call.clone());
            }
            return s;
        }

        int load() {
            int sum = 0;
            for (Car car : cars) {
                sum += car.where == 2 ? car.weight : 0;
            }
            return sum;
        }

        int tide(int at) {
            long p = at % (2L * half);
            long way = p <= half ? p : 2L * half - p;
            return (int) (low + (high - low) * way / half);
        }

        int deck(int at) {
            return tide(at) + free - load() / sink;
        }

        int slope() {
            return Math.abs(end - quay);
        }

        int lip() {
            return Math.abs(end - deck(time));
        }

        int weightOf(int lane) {
            int sum = 0;
            for (Car car : cars) {
                sum += car.lane == lane && (car.where == 1 || car.where == 2) ? car.weight : 0;
            }
            return sum;
        }

        int freeOf(int lane) {
            int sum = laneLength;
            for (Car car : cars) {
                sum -= car.lane == lane && (car.where == 1 || car.where == 2) ? kinds[car.kind][2] : 0;
            }
            return sum;
        }

        int laneFor(int number) {
            Car car = cars.get(number);
            int best = NONE;
            for (int lane = 2; lane >= 0; lane--) {
                int[] then = {weightOf(0), weightOf(1), weightOf(2)};
                int without = then[lane];
                then[lane] += car.weight;
                boolean suits = freeOf(lane) >= kinds[car.kind][2] && Math.abs(then[0] - then[2]) <= listMost;
                if (suits && (best == NONE || without <= weightOf(best))) {
                    best = lane;
                }
            }
            return best;
        }

        int whyNot(int number) {
            Car car = cars.get(number);
            int most = Math.max(freeOf(0), Math.max(freeOf(1), freeOf(2)));
            boolean[] reasons = {false, !open, ramp != NONE, most < kinds[car.kind][2],
                load() + car.weight > loadMost, laneFor(number) == NONE,
                slope() > kinds[car.kind][0], lip() > kinds[car.kind][1]};
            for (int reason = 1; reason < reasons.length; reason++) {
                if (reasons[reason]) {
                    return reason;
                }
            }
            return 0;
        }

        /** Returns whether a car began to drive. */
        boolean tick() {
            time++;
            tickWinch();
            tickRamp();
            if (ramp != NONE || queue.isEmpty()) {
                return false;
            }
            int first = queue.get(0);
            int reason = whyNot(first);
            if (reason == 0) {
                begin(first);
                return true;
            }
            if (reason == 1) {
                return false;
            }
            waiting++;
            return waiting >= patience && crew(first, reason);
        }

        void tickWinch() {
            if (winch == 1) {
                left--;
            }
            if (winch == 0 && lip() > slack) {
                winch = 1;
                left = wake;
            }
            if (winch == 1 && left == 0) {
                winch = 2;
            }
            if (winch == 2) {
                int way = Math.min(pull, lip());
                end += deck(time) > end ? way : -way;
                if (lip() == 0) {
                    winch = 0;
                }
            }
        }

        void tickRamp() {
            if (ramp == NONE) {
                return;
            }
            Car car = cars.get(ramp);
            if (slope() <= kinds[car.kind][0] && lip() <= kinds[car.kind][1]) {
                driven++;
                greatest = Math.max(greatest, slope());
                if (driven >= cross) {
                    car.where = 2;
                    car.boarded = time;
                    lanes.get(car.lane).add(ramp);
                    boarded++;
                    ramp = NONE;
                    driven = 0;
                }
            } else {
                stood++;
            }
        }

        boolean crew(int first, int reason) {
            int began = NONE;
            for (int other : new ArrayList<>(queue)) {
                if (began == NONE && other != first && whyNot(other) == 0) {
                    began = other;
                }
            }
            if (began != NONE) {
                begin(began);
            }
            calls++;
            latestCalls.add(0, new int[] {time, first, reason, began});
            if (latestCalls.size() > 20) {
                latestCalls.remove(20);
            }
            waiting = 0;
            return began != NONE;
        }

        void begin(int number) {
            Car car = cars.get(number);
            car.lane = laneFor(number);
            car.where = 1;
            car.began = time;
            queue.remove(Integer.valueOf(number));
            ramp = number;
            driven = 0;
            waiting = 0;
        }

        int arrive(int kind, int weight) {
            Car car = new Car();
            car.kind = kind;
            car.weight = weight;
            car.arrived = time;
            cars.add(car);
            queue.add(cars.size() - 1);
            return cars.size() - 1;
        }
    }

    private static final class Wrong extends Exception {
        private static final long serialVersionUID = 1;
        final int code;
        final int position;

        Wrong(int code, int position) {
            super("wrong");
            this.code = code;
            this.position = position;
        }
    }

    /** All tokens at once: the text of each and where it begins; a last one for the end. */
    private static final class Tokens {
        final List<String> texts = new ArrayList<>();
        final List<Integer> places = new ArrayList<>();
        int next = 0;

        Tokens(String text) {
            java.util.regex.Matcher m = java.util.regex.Pattern
                .compile("[a-z]+|[0-9]+|[ \n]+|.", java.util.regex.Pattern.DOTALL).matcher(text);
            while (m.find()) {
                if (!m.group().matches("[ \n]+")) {
                    texts.add(m.group());
                    places.add(m.start());
                }
            }
            texts.add("");
            places.add(text.length());
        }

        boolean atEnd() {
            return texts.get(next).isEmpty();
        }

        String see() {
            return texts.get(next);
        }

        int place() {
            return places.get(next);
        }

        void word(String word) throws Wrong {
            if (!see().equals(word)) {
                throw new Wrong(1, place());
            }
            next++;
        }

        String oneOf(String... words) throws Wrong {
            if (!Arrays.asList(words).contains(see())) {
                throw new Wrong(1, place());
            }
            return texts.get(next++);
        }

        int number(int least, int most) throws Wrong {
            if (!see().matches("[0-9]+")) {
                throw new Wrong(1, place());
            }
            java.math.BigInteger value = new java.math.BigInteger(see());
            if (value.compareTo(java.math.BigInteger.valueOf(least)) < 0
                || value.compareTo(java.math.BigInteger.valueOf(most)) > 0) {
                throw new Wrong(2, place());
            }
            next++;
            return value.intValue();
        }

        int height(int most) throws Wrong {
            if (see().equals("-")) {
                next++;
                return -number(0, most);
            }
            return number(0, most);
        }
    }

    private State now = new State();
    private final ArrayDeque<State> past = new ArrayDeque<>();
    private final State[] saved = new State[2];
    private final int[] accounts = new int[5];
    private String text = "";
    private String output = "";
    private int errorCode = 0;
    private int errorPosition = NONE;

    public int appendText(int fourBytes) {
        if (text.length() > 496) {
            throw new IllegalStateException();
        }
        for (int part = 3; part >= 0; part--) {
            text += (char) (fourBytes >> 8 * part & 255);
        }
        return text.length();
    }

    public int truncateText(int length) {
        if (length < 0 || length > text.length()) {
            throw new IllegalArgumentException();
        }
        text = text.substring(0, length);
        return length;
    }

    public int load() {
        try {
            now = setup(new Tokens(text));
            past.clear();
            right();
            return now.queue.size();
        } catch (Wrong wrong) {
            keep(wrong);
            return NONE;
        }
    }

    public int play() {
        try {
            List<int[]> commands = script(new Tokens(text));
            right();
            int done = 0;
            for (int[] command : commands) {
                if (perform(command) < 0) {
                    break;
                }
                done++;
            }
            return done;
        } catch (Wrong wrong) {
            keep(wrong);
            return NONE;
        }
    }

    private void right() {
        errorCode = 0;
        errorPosition = NONE;
        text = "";
    }

    private void keep(Wrong wrong) {
        errorCode = wrong.code;
        errorPosition = wrong.position;
        text = "";
    }

    private static State setup(Tokens t) throws Wrong {
        State s = new State();
        List<String> told = new ArrayList<>();
        while (!t.atEnd()) {
            int place = t.place();
            String word = t.oneOf("tide", "quay", "deck", "lanes", "kind", "winch", "cross", "car");
            if (told.contains(word)) {
                throw new Wrong(3, place);
            }
            if (!word.equals("kind") && !word.equals("car")) {
                told.add(word);
            }
            if (word.equals("tide")) {
                s.low = t.height(500);
                s.high = t.height(500);
                if (s.high < s.low) {
                    throw new Wrong(2, t.places.get(t.next - 1));
                }
                t.word("half");
                s.half = t.number(1, 99);
            } else if (word.equals("quay")) {
                s.quay = t.height(500);
            } else if (word.equals("deck")) {
                s.free = t.number(0, 300);
                t.word("sink");
                s.sink = t.number(1, 999);
            } else if (word.equals("lanes")) {
                s.laneLength = t.number(1, 30);
                t.word("load");
                s.loadMost = t.number(1, 9999);
                t.word("list");
                s.listMost = t.number(0, 9999);
            } else if (word.equals("kind")) {
                int at = t.place();
                int kind = t.number(0, 3);
                if (told.contains("kind" + kind)) {
                    throw new Wrong(3, at);
                }
                told.add("kind" + kind);
                s.kinds[kind] = new int[] {t.number(0, 500), t.number(0, 99), t.number(1, 9)};
            } else if (word.equals("winch")) {
                s.pull = t.number(1, 20);
                s.slack = t.number(0, 50);
                s.wake = t.number(0, 20);
            } else if (word.equals("cross")) {
                s.cross = t.number(1, 20);
                t.word("patience");
                s.patience = t.number(1, 50);
            } else {
                if (s.cars.size() == 20) {
                    throw new Wrong(4, place);
                }
                s.arrive(t.number(0, 3), t.number(1, 999));
            }
            t.word(";");
        }
        s.end = s.deck(0);
        return s;
    }

    private static final List<String> COMMANDS = List.of("tick", "car", "wave", "dismiss", "unload", "gate",
        "crank", "winch", "cross");

    private static List<int[]> script(Tokens t) throws Wrong {
        List<int[]> commands = new ArrayList<>();
        while (!t.atEnd()) {
            int place = t.place();
            String word = t.oneOf(COMMANDS.toArray(new String[0]));
            if (commands.size() == 40) {
                throw new Wrong(4, place);
            }
            int[] command = {COMMANDS.indexOf(word), 0, 0, 0};
            switch (word) {
                case "tick":
                    command[1] = t.see().equals(";") ? 1 : t.number(1, 50);
                    break;
                case "car":
                    command[1] = t.number(0, 3);
                    command[2] = t.number(1, 999);
                    break;
                case "wave":
                case "dismiss":
                    command[1] = t.number(0, 59);
                    break;
                case "unload":
                    command[1] = t.number(0, 2);
                    break;
                case "gate":
                    command[1] = t.oneOf("open", "closed").equals("open") ? 1 : 0;
                    break;
                case "crank":
                    command[1] = t.height(20);
                    break;
                case "winch":
                    command[1] = t.number(1, 20);
                    command[2] = t.number(0, 50);
                    command[3] = t.number(0, 20);
                    break;
                default:
                    command[1] = t.number(1, 20);
                    t.word("patience");
                    command[2] = t.number(1, 50);
                    break;
            }
            t.word(";");
            commands.add(command);
        }
        return commands;
    }

    private int perform(int[] c) {
        switch (c[0]) {
            case 0: return tick(c[1]);
            case 1: return arrive(c[1], c[2]);
            case 2: return wave(c[1]);
            case 3: return dismiss(c[1]);
            case 4: return unload(c[1]);
            case 5: return setGate(c[1] == 1);
            case 6: return crank(c[1]);
            case 7: return setWinch(c[1], c[2], c[3]);
            default: return setCross(c[1], c[2]);
        }
    }

    public int errorCode() {
        return errorCode;
    }

    public int errorPosition() {
        return errorPosition;
    }

    private static int pick(int what, int... numbers) {
        if (what < 0 || what >= numbers.length) {
            throw new IllegalArgumentException();
        }
        return numbers[what];
    }

    private static void index(boolean isThere) {
        if (!isThere) {
            throw new IndexOutOfBoundsException();
        }
    }

    private static void argument(boolean isRight) {
        if (!isRight) {
            throw new IllegalArgumentException();
        }
    }

    public int count(int what) {
        State s = now;
        int deckCars = s.lanes.get(0).size() + s.lanes.get(1).size() + s.lanes.get(2).size();
        return pick(what, s.time, s.queue.size(), deckCars, s.cars.size(), s.end, s.winch, s.winch == 1 ? s.left : 0,
            s.load(), s.ramp, s.ramp == NONE ? 0 : s.driven, s.stood, s.waiting, s.calls, s.boarded, s.unloaded,
            s.greatest, s.open ? 1 : 0, past.size());
    }

    public int setting(int what) {
        State s = now;
        return pick(what, s.low, s.high, s.half, s.quay, s.free, s.sink, s.laneLength, s.loadMost, s.listMost, s.pull,
            s.slack, s.wake, s.cross, s.patience);
    }

    public int kind(int kind, int what) {
        index(kind >= 0 && kind < 4);
        return pick(what, now.kinds[kind]);
    }

    public int car(int car, int what) {
        index(car >= 0 && car < now.cars.size());
        Car c = now.cars.get(car);
        return pick(what, c.kind, c.weight, c.where, c.lane, c.arrived, c.began, c.boarded);
    }

    public int queued(int index) {
        return index >= 0 && index < now.queue.size() ? now.queue.get(index) : NONE;
    }

    public int standing(int lane, int index) {
        index(lane >= 0 && lane < 3);
        List<Integer> cars = now.lanes.get(lane);
        return index >= 0 && index < cars.size() ? cars.get(index) : NONE;
    }

    public int lane(int lane, boolean isFree) {
        index(lane >= 0 && lane < 3);
        return isFree ? now.freeOf(lane) : now.weightOf(lane);
    }

    public int call(int call, int what) {
        index(call >= 0 && call < now.latestCalls.size());
        return pick(what, now.latestCalls.get(call));
    }

    public int account(int what) {
        return pick(what, accounts);
    }

    public int tide(int time) {
        argument(time >= 0);
        return now.tide(time);
    }

    public int deck(int time) {
        argument(time >= 0);
        return now.deck(time);
    }

    public int slope() {
        return now.slope();
    }

    public int lip() {
        return now.lip();
    }

    public int waterIn(boolean isHigh) {
        int ticks = 0;
        while ((now.time + ticks) % (2 * now.half) != (isHigh ? now.half : 0)) {
            ticks++;
        }
        return ticks;
    }

    public int list() {
        return now.weightOf(0) - now.weightOf(2);
    }

    public int heaviest() {
        int best = NONE;
        for (int car = now.cars.size() - 1; car >= 0; car--) {
            Car c = now.cars.get(car);
            if (c.where == 2 && (best == NONE || c.weight >= now.cars.get(best).weight)) {
                best = car;
            }
        }
        return best;
    }

    public int whyNot(int car) {
        index(now.queue.contains(car));
        return now.whyNot(car);
    }

    public int laneFor(int car) {
        index(now.queue.contains(car));
        return now.laneFor(car);
    }

    public int startIn() {
        State s = now.copy();
        for (int ticks = 1; ticks <= 200; ticks++) {
            if (s.tick()) {
                return ticks;
            }
        }
        return NONE;
    }

    private static int boarded(State s, int ticks) {
        int before = s.boarded;
        for (int n = 0; n < ticks; n++) {
            s.tick();
        }
        return s.boarded - before;
    }

    public int boardIn(int ticks) {
        argument(ticks >= 1 && ticks <= 200);
        return boarded(now.copy(), ticks);
    }

    public int wakesIn() {
        State s = now.copy();
        int ticks = 0;
        while (ticks <= 200 && s.winch == 0) {
            s.tick();
            ticks++;
        }
        return ticks > 200 ? NONE : ticks;
    }

    public int easyIn(int kind) {
        index(kind >= 0 && kind < 4);
        State s = now.copy();
        int ticks = 0;
        while (ticks <= 200 && (s.slope() > s.kinds[kind][0] || s.lip() > s.kinds[kind][1])) {
            s.tick();
            ticks++;
        }
        return ticks > 200 ? NONE : ticks;
    }

    public int bestFirst(int ticks) {
        argument(ticks >= 1 && ticks <= 99);
        int best = NONE;
        int most = NONE;
        for (int car : now.queue) {
            State s = now.copy();
            s.queue.remove(Integer.valueOf(car));
            s.queue.add(0, car);
            int many = boarded(s, ticks);
            if (many > most) {
                most = many;
                best = car;
            }
        }
        return best;
    }

    public double meanWait() {
        double sum = 0;
        double many = 0;
        for (Car car : now.cars) {
            if (car.began != NONE) {
                sum += car.began - car.arrived;
                many++;
            }
        }
        return many == 0 ? 0.0 : sum / many;
    }

    public float fullness() {
        return (float) now.load() / (float) now.loadMost;
    }

    private int refuse(int reason) {
        accounts[reason]++;
        return -reason;
    }

    private void accept() {
        accounts[0]++;
        past.push(now.copy());
        if (past.size() > 8) {
            past.removeLast();
        }
    }

    public int tick(int many) {
        argument(many >= 1 && many <= 50);
        accept();
        return boarded(now, many);
    }

    public int arrive(int kind, int weight) {
        index(kind >= 0 && kind < 4);
        argument(weight >= 1 && weight <= 999);
        if (now.cars.size() == 60) {
            return refuse(1);
        }
        if (now.queue.size() == 20) {
            return refuse(2);
        }
        accept();
        return now.arrive(kind, weight);
    }

    public int wave(int car) {
        index(car >= 0 && car < 60);
        int place = now.queue.indexOf(car);
        if (place <= 0) {
            return refuse(place < 0 ? 1 : 2);
        }
        accept();
        now.queue.remove(place);
        now.queue.add(0, car);
        return place;
    }

    public int dismiss(int car) {
        index(car >= 0 && car < 60);
        if (!now.queue.contains(car)) {
            return refuse(1);
        }
        accept();
        now.queue.remove(Integer.valueOf(car));
        now.cars.get(car).where = 4;
        return now.queue.size();
    }

    public int unload(int lane) {
        index(lane >= 0 && lane < 3);
        List<Integer> cars = now.lanes.get(lane);
        if (cars.isEmpty()) {
            return refuse(1);
        }
        if (now.ramp != NONE) {
            return refuse(2);
        }
        int car = cars.get(cars.size() - 1);
        int[] kind = now.kinds[now.cars.get(car).kind];
        if (now.slope() > kind[0]) {
            return refuse(3);
        }
        if (now.lip() > kind[1]) {
            return refuse(4);
        }
        accept();
        now.lanes.get(lane).remove(now.lanes.get(lane).size() - 1);
        now.cars.get(car).where = 3;
        now.unloaded++;
        return car;
    }

    public int setGate(boolean isOpen) {
        if (now.open == isOpen) {
            return refuse(1);
        }
        accept();
        now.open = isOpen;
        return 0;
    }

    public int crank(int by) {
        argument(by >= -20 && by <= 20);
        if (by == 0) {
            return refuse(1);
        }
        if (now.ramp != NONE) {
            return refuse(2);
        }
        accept();
        now.end += by;
        return now.lip();
    }

    public int setWinch(int pull, int slack, int wake) {
        argument(pull >= 1 && pull <= 20 && slack >= 0 && slack <= 50 && wake >= 0 && wake <= 20);
        accept();
        now.pull = pull;
        now.slack = slack;
        now.wake = wake;
        return 0;
    }

    public int setCross(int cross, int patience) {
        argument(cross >= 1 && cross <= 20 && patience >= 1 && patience <= 50);
        accept();
        now.cross = cross;
        now.patience = patience;
        return 0;
    }

    public int writeLanes() {
        StringBuilder all = new StringBuilder();
        for (int lane = 0; lane < 3; lane++) {
            List<String> numbers = new ArrayList<>();
            for (int car : now.lanes.get(lane)) {
                numbers.add(String.valueOf(car));
            }
            all.append(String.join(",", numbers)).append('/').append(now.freeOf(lane)).append(';');
        }
        output = all.toString();
        return output.length();
    }

    public int output(int index) {
        return index >= 0 && index < output.length() ? output.charAt(index) : NONE;
    }

    public int undo() {
        if (past.isEmpty()) {
            return NONE;
        }
        now = past.pop();
        return past.size();
    }

    public void save(int slot) {
        argument(slot == 0 || slot == 1);
        saved[slot] = now.copy();
    }

    public void restore(int slot) {
        argument(slot == 0 || slot == 1);
        if (saved[slot] == null) {
            throw new IllegalStateException();
        }
        now = saved[slot].copy();
        past.clear();
    }
}
