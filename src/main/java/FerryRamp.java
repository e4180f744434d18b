/** A ferry ramp that keeps level with the tide: ../shared/DOC.md says what it does. */
public final class FerryRamp {
    public static final int NONE = -1;

    private static final int KINDS = 4;
    private static final int LANES = 3;
    private static final int LANE_MOST = 30;
    private static final int CARS_MOST = 60;
    private static final int QUEUE_MOST = 20;
    private static final int SETUP_CARS_MOST = 20;
    private static final int CALLS_KEPT = 20;
    private static final int UNDO_MOST = 8;
    private static final int SLOTS = 2;
    private static final int TEXT_MOST = 500;
    private static final int COMMANDS_MOST = 40;
    private static final int OUTPUT_MOST = 256;
    private static final int REASONS_MOST = 4;
    private static final int FORESEEN_MOST = 200;
    private static final int BEST_TICKS_MOST = 99;
    private static final int TICKS_MOST = 50;
    private static final int WEIGHT_MOST = 999;
    private static final int HEIGHT_MOST = 500;
    private static final int CRANK_MOST = 20;
    private static final int PULL_MOST = 20;
    private static final int SLACK_MOST = 50;
    private static final int WAKE_MOST = 20;
    private static final int CROSS_MOST = 20;
    private static final int PATIENCE_MOST = 50;

    private static final int ASLEEP = 0;
    private static final int WAKING = 1;
    private static final int AWAKE = 2;

    private static final int IN_QUEUE = 0;
    private static final int ON_RAMP = 1;
    private static final int ON_DECK = 2;
    private static final int UNLOADED = 3;
    private static final int DISMISSED = 4;

    private static final int GATE_CLOSED = 1;
    private static final int RAMP_TAKEN = 2;
    private static final int LANES_SHORT = 3;
    private static final int LOAD_TOO_GREAT = 4;
    private static final int NONE_SUITS = 5;
    private static final int SLOPE_TOO_GREAT = 6;
    private static final int LIP_TOO_GREAT = 7;

    private final State now = new State();
    // For what would be, and for a setup that may still turn out to be wrong.
    private final State trial = new State();
    private final History history = new History();
    private final State[] saved = new State[SLOTS];
    private final boolean[] isSaved = new boolean[SLOTS];
    private final Parser parser = new Parser();
    private final int[] accounts = new int[REASONS_MOST + 1];
    private final int[] output = new int[OUTPUT_MOST];
    private int outputLength = 0;

    public FerryRamp() {
        for (int slot = 0; slot < SLOTS; slot++) {
            saved[slot] = new State();
        }
        now.becomeNew();
        now.becomeLevel();
    }

    // ---- texts

    public int appendText(int fourBytes) throws IllegalStateException {
        if (parser.length + 4 > TEXT_MOST) {
            throw new IllegalStateException("the text would be too long");
        }
        for (int shift = 24; shift >= 0; shift -= 8) {
            parser.addByte((fourBytes >>> shift) & 255);
        }
        return parser.length;
    }

    public int truncateText(int length) throws IllegalArgumentException {
        if (length < 0 || length > parser.length) {
            throw new IllegalArgumentException("length");
        }
        parser.length = length;
        return length;
    }

    public int load() {
        boolean isRight = parser.readSetup(trial);
        parser.length = 0;
        if (!isRight) {
            return NONE;
        }
        now.copyFrom(trial);
        history.forget();
        return now.counts[Count.QUEUED];
    }

    public int play() {
        boolean isRight = parser.readScript();
        parser.length = 0;
        if (!isRight) {
            return NONE;
        }
        int done = 0;
        while (done < parser.commandCount && perform(done) >= 0) {
            done++;
        }
        return done;
    }

    public int errorCode() {
        return parser.errorCode;
    }

    public int errorPosition() {
        return parser.errorPosition;
    }

    // ---- what there is

    public int count(int what) throws IllegalArgumentException {
        if (what == Count.MANY) {
            return history.many;
        }
        if (what < 0 || what > Count.MANY) {
            throw new IllegalArgumentException("what");
        }
        return now.counts[what];
    }

    public int setting(int what) throws IllegalArgumentException {
        if (what < 0 || what >= Setting.MANY) {
            throw new IllegalArgumentException("what");
        }
        return now.settings[what];
    }

    public int kind(int kind, int what) throws IndexOutOfBoundsException, IllegalArgumentException {
        if (kind < 0 || kind >= KINDS) {
            throw new IndexOutOfBoundsException("kind");
        }
        if (what < 0 || what >= Kind.FACTS) {
            throw new IllegalArgumentException("what");
        }
        return now.kindFact(kind, what);
    }

    public int car(int car, int what) throws IndexOutOfBoundsException, IllegalArgumentException {
        if (car < 0 || car >= now.counts[Count.CARS]) {
            throw new IndexOutOfBoundsException("car");
        }
        if (what < 0 || what >= Car.FACTS) {
            throw new IllegalArgumentException("what");
        }
        return now.carFact(car, what);
    }

    public int queued(int index) {
        return index >= 0 && index < now.counts[Count.QUEUED] ? at(now.queue, index) : NONE;
    }

    public int standing(int lane, int index) throws IndexOutOfBoundsException {
        if (lane < 0 || lane >= LANES) {
            throw new IndexOutOfBoundsException("lane");
        }
        return now.carOnDeck(lane, index);
    }

    public int lane(int lane, boolean isFree) throws IndexOutOfBoundsException {
        if (lane < 0 || lane >= LANES) {
            throw new IndexOutOfBoundsException("lane");
        }
        return isFree ? now.settings[Setting.LANE] - now.taken[lane] : now.weights[lane];
    }

    public int call(int call, int what) throws IndexOutOfBoundsException, IllegalArgumentException {
        int calls = now.counts[Count.CALLS];
        if (call < 0 || call >= calls || call >= CALLS_KEPT) {
            throw new IndexOutOfBoundsException("call");
        }
        if (what < 0 || what >= Call.FACTS) {
            throw new IllegalArgumentException("what");
        }
        return at(now.calls, (calls - 1 - call) % CALLS_KEPT * Call.FACTS + what);
    }

    public int account(int what) throws IllegalArgumentException {
        if (what < 0 || what >= accounts.length) {
            throw new IllegalArgumentException("what");
        }
        return accounts[what];
    }

    // ---- heights

    public int tide(int time) throws IllegalArgumentException {
        if (time < 0) {
            throw new IllegalArgumentException("time");
        }
        return now.tideAt(time);
    }

    public int deck(int time) throws IllegalArgumentException {
        if (time < 0) {
            throw new IllegalArgumentException("time");
        }
        return now.deckAt(time);
    }

    public int slope() {
        return now.slope;
    }

    public int lip() {
        return now.lip;
    }

    public int waterIn(boolean isHigh) {
        int half = now.settings[Setting.HALF];
        if (half < 1) {
            return 0;
        }
        int round = 2 * half;
        int due = isHigh ? half : 0;
        return (due + round - now.counts[Count.TIME] % round) % round;
    }

    public int list() {
        return now.weights[0] - now.weights[LANES - 1];
    }

    public int heaviest() {
        int best = NONE;
        int most = 0;
        for (int car = 0; car < now.counts[Count.CARS]; car++) {
            int weight = now.carFact(car, Car.WEIGHT);
            if (now.carFact(car, Car.WHERE) == ON_DECK && weight > most) {
                best = car;
                most = weight;
            }
        }
        return best;
    }

    // ---- what would be (nothing changes)

    public int whyNot(int car) throws IndexOutOfBoundsException {
        if (now.placeOf(car) == NONE) {
            throw new IndexOutOfBoundsException("car");
        }
        return now.reasonFor(car);
    }

    public int laneFor(int car) throws IndexOutOfBoundsException {
        if (now.placeOf(car) == NONE) {
            throw new IndexOutOfBoundsException("car");
        }
        return now.suitingLane(now.carKindFact(car, Kind.LENGTH), now.carFact(car, Car.WEIGHT));
    }

    public int startIn() {
        trial.copyFrom(now);
        for (int ticks = 1; ticks <= FORESEEN_MOST; ticks++) {
            int before = trial.counts[Count.RAMP];
            trial.passTicks(1);
            int after = trial.counts[Count.RAMP];
            if (after != NONE && after != before) {
                return ticks;
            }
        }
        return NONE;
    }

    public int boardIn(int ticks) throws IllegalArgumentException {
        if (ticks < 1 || ticks > FORESEEN_MOST) {
            throw new IllegalArgumentException("ticks");
        }
        trial.copyFrom(now);
        return trial.passTicks(ticks);
    }

    public int wakesIn() {
        trial.copyFrom(now);
        for (int ticks = 0; ticks <= FORESEEN_MOST; ticks++) {
            if (trial.counts[Count.WINCH] != ASLEEP) {
                return ticks;
            }
            trial.passTicks(1);
        }
        return NONE;
    }

    public int easyIn(int kind) throws IndexOutOfBoundsException {
        if (kind < 0 || kind >= KINDS) {
            throw new IndexOutOfBoundsException("kind");
        }
        trial.copyFrom(now);
        for (int ticks = 0; ticks <= FORESEEN_MOST; ticks++) {
            if (trial.slope <= trial.kindFact(kind, Kind.STEEP) && trial.lip <= trial.kindFact(kind, Kind.LIP)) {
                return ticks;
            }
            trial.passTicks(1);
        }
        return NONE;
    }

    public int bestFirst(int ticks) throws IllegalArgumentException {
        if (ticks < 1 || ticks > BEST_TICKS_MOST) {
            throw new IllegalArgumentException("ticks");
        }
        int best = NONE;
        int most = NONE;
        for (int place = 0; place < now.counts[Count.QUEUED]; place++) {
            trial.copyFrom(now);
            trial.bringToFront(place);
            int boarded = trial.passTicks(ticks);
            if (boarded > most) {
                best = at(now.queue, place);
                most = boarded;
            }
        }
        return best;
    }

    public double meanWait() {
        long sum = 0;
        int began = 0;
        for (int car = 0; car < now.counts[Count.CARS]; car++) {
            int start = now.carFact(car, Car.BEGAN);
            if (start != NONE) {
                sum += start - now.carFact(car, Car.ARRIVED);
                began++;
            }
        }
        return began == 0 ? 0.0 : (double) sum / (double) began;
    }

    public float fullness() {
        int most = now.settings[Setting.LOAD];
        return most < 1 ? 0.0f : (float) now.counts[Count.LOAD] / (float) most;
    }

    // ---- acts: a number as told, or minus the reason

    public int tick(int many) throws IllegalArgumentException {
        if (many < 1 || many > TICKS_MOST) {
            throw new IllegalArgumentException("many");
        }
        return doTick(many);
    }

    public int arrive(int kind, int weight) throws IndexOutOfBoundsException, IllegalArgumentException {
        if (kind < 0 || kind >= KINDS) {
            throw new IndexOutOfBoundsException("kind");
        }
        if (weight < 1 || weight > WEIGHT_MOST) {
            throw new IllegalArgumentException("weight");
        }
        return doArrive(kind, weight);
    }

    public int wave(int car) throws IndexOutOfBoundsException {
        if (car < 0 || car >= CARS_MOST) {
            throw new IndexOutOfBoundsException("car");
        }
        return doWave(car);
    }

    public int dismiss(int car) throws IndexOutOfBoundsException {
        if (car < 0 || car >= CARS_MOST) {
            throw new IndexOutOfBoundsException("car");
        }
        return doDismiss(car);
    }

    public int unload(int lane) throws IndexOutOfBoundsException {
        if (lane < 0 || lane >= LANES) {
            throw new IndexOutOfBoundsException("lane");
        }
        return doUnload(lane);
    }

    public int setGate(boolean isOpen) {
        return doSetGate(isOpen ? 1 : 0);
    }

    public int crank(int by) throws IllegalArgumentException {
        if (by < -CRANK_MOST || by > CRANK_MOST) {
            throw new IllegalArgumentException("by");
        }
        return doCrank(by);
    }

    public int setWinch(int pull, int slack, int wake) throws IllegalArgumentException {
        if (pull < 1 || pull > PULL_MOST) {
            throw new IllegalArgumentException("pull");
        }
        if (slack < 0 || slack > SLACK_MOST) {
            throw new IllegalArgumentException("slack");
        }
        if (wake < 0 || wake > WAKE_MOST) {
            throw new IllegalArgumentException("wake");
        }
        return doSetWinch(pull, slack, wake);
    }

    public int setCross(int cross, int patience) throws IllegalArgumentException {
        if (cross < 1 || cross > CROSS_MOST) {
            throw new IllegalArgumentException("cross");
        }
        if (patience < 1 || patience > PATIENCE_MOST) {
            throw new IllegalArgumentException("patience");
        }
        return doSetCross(cross, patience);
    }

    // ---- output

    public int writeLanes() {
        outputLength = 0;
        for (int lane = 0; lane < LANES; lane++) {
            for (int index = 0; index < now.deckCars[lane]; index++) {
                if (index > 0) {
                    writeByte(',');
                }
                writeNumber(now.carOnDeck(lane, index));
            }
            writeByte('/');
            writeNumber(now.settings[Setting.LANE] - now.taken[lane]);
            writeByte(';');
        }
        return outputLength;
    }

    public int output(int index) {
        return index >= 0 && index < outputLength ? at(output, index) : NONE;
    }

    // ---- undo, saved states

    public int undo() {
        return history.takeBack(now);
    }

    public void save(int slot) throws IllegalArgumentException {
        if (slot < 0 || slot >= SLOTS) {
            throw new IllegalArgumentException("slot");
        }
        State kept = saved[slot];
        if (kept != null) {
            kept.copyFrom(now);
            isSaved[slot] = true;
        }
    }

    public void restore(int slot) throws IllegalArgumentException, IllegalStateException {
        if (slot < 0 || slot >= SLOTS) {
            throw new IllegalArgumentException("slot");
        }
        State kept = saved[slot];
        if (!isSaved[slot] || kept == null) {
            throw new IllegalStateException("nothing is saved there");
        }
        now.copyFrom(kept);
        history.forget();
    }

    // ---- how acts are done; their numbers are in range already

    private int perform(int command) {
        int first = parser.commandPart(command, Command.FIRST);
        int second = parser.commandPart(command, Command.SECOND);
        int third = parser.commandPart(command, Command.THIRD);
        switch (parser.commandPart(command, Command.WHAT)) {
            case Command.TICK: return doTick(first);
            case Command.CAR: return doArrive(first, second);
            case Command.WAVE: return doWave(first);
            case Command.DISMISS: return doDismiss(first);
            case Command.UNLOAD: return doUnload(first);
            case Command.GATE: return doSetGate(first);
            case Command.CRANK: return doCrank(first);
            case Command.WINCH: return doSetWinch(first, second, third);
            case Command.CROSS: return doSetCross(first, second);
            default: return NONE;
        }
    }

    private int doTick(int many) {
        accept();
        return now.passTicks(many);
    }

    private int doArrive(int kind, int weight) {
        if (now.counts[Count.CARS] >= CARS_MOST) {
            return refuse(1);
        }
        if (now.counts[Count.QUEUED] >= QUEUE_MOST) {
            return refuse(2);
        }
        accept();
        return now.addCar(kind, weight);
    }

    private int doWave(int car) {
        int place = now.placeOf(car);
        if (place == NONE) {
            return refuse(1);
        }
        if (place == 0) {
            return refuse(2);
        }
        accept();
        now.bringToFront(place);
        return place;
    }

    private int doDismiss(int car) {
        int place = now.placeOf(car);
        if (place == NONE) {
            return refuse(1);
        }
        accept();
        now.takeFromQueue(place);
        now.setCarFact(car, Car.WHERE, DISMISSED);
        return now.counts[Count.QUEUED];
    }

    private int doUnload(int lane) {
        int car = now.lastOnDeck(lane);
        if (car == NONE) {
            return refuse(1);
        }
        if (now.counts[Count.RAMP] != NONE) {
            return refuse(2);
        }
        if (now.slope > now.carKindFact(car, Kind.STEEP)) {
            return refuse(3);
        }
        if (now.lip > now.carKindFact(car, Kind.LIP)) {
            return refuse(4);
        }
        accept();
        now.takeFromDeck(lane);
        return car;
    }

    private int doSetGate(int isOpen) {
        if (now.counts[Count.GATE] == isOpen) {
            return refuse(1);
        }
        accept();
        now.counts[Count.GATE] = isOpen;
        return 0;
    }

    private int doCrank(int by) {
        if (by == 0) {
            return refuse(1);
        }
        if (now.counts[Count.RAMP] != NONE) {
            return refuse(2);
        }
        accept();
        now.counts[Count.END] += by;
        now.measureRamp();
        return now.lip;
    }

    private int doSetWinch(int pull, int slack, int wake) {
        accept();
        now.settings[Setting.PULL] = pull;
        now.settings[Setting.SLACK] = slack;
        now.settings[Setting.WAKE] = wake;
        return 0;
    }

    private int doSetCross(int cross, int patience) {
        accept();
        now.settings[Setting.CROSS] = cross;
        now.settings[Setting.PATIENCE] = patience;
        return 0;
    }

    private void accept() {
        history.remember(now);
        accounts[0]++;
    }

    private int refuse(int reason) {
        if (reason >= 1 && reason < accounts.length) {
            accounts[reason]++;
        }
        return -reason;
    }

    private void writeByte(int sign) {
        if (outputLength >= 0 && outputLength < output.length) {
            output[outputLength] = sign;
            outputLength++;
        }
    }

    // The numbers of cars and what is free of a lane have two digits at most.
    private void writeNumber(int number) {
        if (number >= 10) {
            writeByte('0' + number / 10);
        }
        writeByte('0' + number % 10);
    }

    private static int at(int[] row, int index) {
        return index >= 0 && index < row.length ? row[index] : NONE;
    }

    private static int gap(int one, int other) {
        return one > other ? one - other : other - one;
    }

    /** The places of count()'s numbers in their row, by the numbers that count() takes. */
    private static final class Count {
        static final int TIME = 0;
        static final int QUEUED = 1;
        static final int DECKED = 2;
        static final int CARS = 3;
        static final int END = 4;
        static final int WINCH = 5;
        static final int WAKE_LEFT = 6;
        static final int LOAD = 7;
        static final int RAMP = 8;
        static final int DRIVEN = 9;
        static final int STOOD = 10;
        static final int WAITING = 11;
        static final int CALLS = 12;
        static final int BOARDED = 13;
        static final int UNLOADS = 14;
        static final int GREATEST_SLOPE = 15;
        static final int GATE = 16;
        static final int MANY = 17;
    }

    /** The places of the settings in their row, by the numbers that setting() takes. */
    private static final class Setting {
        static final int LOW = 0;
        static final int HIGH = 1;
        static final int HALF = 2;
        static final int QUAY = 3;
        static final int FREE = 4;
        static final int SINK = 5;
        static final int LANE = 6;
        static final int LOAD = 7;
        static final int LIST = 8;
        static final int PULL = 9;
        static final int SLACK = 10;
        static final int WAKE = 11;
        static final int CROSS = 12;
        static final int PATIENCE = 13;
        static final int MANY = 14;
    }

    /** The places of a kind's numbers, by the numbers that kind() takes. */
    private static final class Kind {
        static final int STEEP = 0;
        static final int LIP = 1;
        static final int LENGTH = 2;
        static final int FACTS = 3;
    }

    /** The places of a car's numbers, by the numbers that car() takes. */
    private static final class Car {
        static final int KIND = 0;
        static final int WEIGHT = 1;
        static final int WHERE = 2;
        static final int LANE = 3;
        static final int ARRIVED = 4;
        static final int BEGAN = 5;
        static final int BOARDED = 6;
        static final int FACTS = 7;
    }

    /** The places of the numbers of a call of the crew, by the numbers that call() takes. */
    private static final class Call {
        static final int TIME = 0;
        static final int FIRST = 1;
        static final int REASON = 2;
        static final int BEGAN = 3;
        static final int FACTS = 4;
    }

    /** The commands of a script, and the places of what one consists of. */
    private static final class Command {
        static final int TICK = 0;
        static final int CAR = 1;
        static final int WAVE = 2;
        static final int DISMISS = 3;
        static final int UNLOAD = 4;
        static final int GATE = 5;
        static final int CRANK = 6;
        static final int WINCH = 7;
        static final int CROSS = 8;

        static final int WHAT = 0;
        static final int FIRST = 1;
        static final int SECOND = 2;
        static final int THIRD = 3;
        static final int PARTS = 4;
    }

    /** Everything that acts can change, in rows that are made once and copied over. */
    private static final class State {
        final int[] counts = new int[Count.MANY];
        final int[] settings = new int[Setting.MANY];
        final int[] kinds = new int[KINDS * Kind.FACTS];
        final int[] cars = new int[CARS_MOST * Car.FACTS];
        final int[] queue = new int[QUEUE_MOST];
        final int[] onDeck = new int[LANES * LANE_MOST];
        final int[] deckCars = new int[LANES];
        // Both count the car on the ramp, too, if it drives to the lane.
        final int[] weights = new int[LANES];
        final int[] taken = new int[LANES];
        final int[] calls = new int[CALLS_KEPT * Call.FACTS];
        // Kept beside what they follow from, as each look at a car asks for them.
        int deck = 0;
        int slope = 0;
        int lip = 0;

        void copyFrom(State other) {
            System.arraycopy(other.counts, 0, counts, 0, Count.MANY);
            System.arraycopy(other.settings, 0, settings, 0, Setting.MANY);
            System.arraycopy(other.kinds, 0, kinds, 0, KINDS * Kind.FACTS);
            System.arraycopy(other.cars, 0, cars, 0, CARS_MOST * Car.FACTS);
            System.arraycopy(other.queue, 0, queue, 0, QUEUE_MOST);
            System.arraycopy(other.onDeck, 0, onDeck, 0, LANES * LANE_MOST);
            System.arraycopy(other.deckCars, 0, deckCars, 0, LANES);
            System.arraycopy(other.weights, 0, weights, 0, LANES);
            System.arraycopy(other.taken, 0, taken, 0, LANES);
            System.arraycopy(other.calls, 0, calls, 0, CALLS_KEPT * Call.FACTS);
            deck = other.deck;
            slope = other.slope;
            lip = other.lip;
        }

        // What the rows of cars, the queue, the lanes and the calls held before
        // is out of reach with the counts at 0.
        void becomeNew() {
            for (int what = 0; what < Count.MANY; what++) {
                counts[what] = 0;
            }
            counts[Count.RAMP] = NONE;
            counts[Count.GATE] = 1;
            for (int lane = 0; lane < LANES; lane++) {
                deckCars[lane] = 0;
                weights[lane] = 0;
                taken[lane] = 0;
            }
            setDefaults();
        }

        private void setDefaults() {
            settings[Setting.LOW] = 0;
            settings[Setting.HIGH] = 0;
            settings[Setting.HALF] = 10;
            settings[Setting.QUAY] = 0;
            settings[Setting.FREE] = 0;
            settings[Setting.SINK] = 100;
            settings[Setting.LANE] = 10;
            settings[Setting.LOAD] = 1000;
            settings[Setting.LIST] = 1000;
            settings[Setting.PULL] = 2;
            settings[Setting.SLACK] = 5;
            settings[Setting.WAKE] = 2;
            settings[Setting.CROSS] = 3;
            settings[Setting.PATIENCE] = 5;
            for (int kind = 0; kind < KINDS; kind++) {
                setKind(kind, 100, 10, kind + 1);
            }
        }

        void setKind(int kind, int steep, int lipMost, int length) {
            if (kind >= 0 && kind < KINDS) {
                kinds[kind * Kind.FACTS + Kind.STEEP] = steep;
                kinds[kind * Kind.FACTS + Kind.LIP] = lipMost;
                kinds[kind * Kind.FACTS + Kind.LENGTH] = length;
            }
        }

        void becomeLevel() {
            counts[Count.END] = deckAt(counts[Count.TIME]);
            measureAll();
        }

        // ---- heights

        int tideAt(int time) {
            int half = settings[Setting.HALF];
            int low = settings[Setting.LOW];
            if (half < 1) {
                return low;
            }
            int past = time % (2 * half);
            int risen = past <= half ? past : 2 * half - past;
            return low + (settings[Setting.HIGH] - low) * risen / half;
        }

        int deckAt(int time) {
            int sink = settings[Setting.SINK];
            int sunk = sink < 1 ? 0 : counts[Count.LOAD] / sink;
            return tideAt(time) + settings[Setting.FREE] - sunk;
        }

        // Due whenever TIME or the load has changed.
        void measureAll() {
            deck = deckAt(counts[Count.TIME]);
            measureRamp();
        }

        // Due whenever END has changed.
        void measureRamp() {
            slope = gap(counts[Count.END], settings[Setting.QUAY]);
            lip = gap(counts[Count.END], deck);
        }

        // ---- cars and lanes

        int kindFact(int kind, int what) {
            int spot = kind * Kind.FACTS + what;
            return spot >= 0 && spot < kinds.length ? kinds[spot] : NONE;
        }

        int carFact(int car, int what) {
            int spot = car * Car.FACTS + what;
            return spot >= 0 && spot < cars.length ? cars[spot] : NONE;
        }

        int carKindFact(int car, int what) {
            return kindFact(carFact(car, Car.KIND), what);
        }

        void setCarFact(int car, int what, int value) {
            int spot = car * Car.FACTS + what;
            if (spot >= 0 && spot < cars.length) {
                cars[spot] = value;
            }
        }

        int carOnDeck(int lane, int index) {
            if (lane < 0 || lane >= LANES || index < 0 || index >= deckCars[lane]) {
                return NONE;
            }
            return at(onDeck, lane * LANE_MOST + index);
        }

        int lastOnDeck(int lane) {
            return lane < 0 || lane >= LANES ? NONE : carOnDeck(lane, deckCars[lane] - 1);
        }

        int placeOf(int car) {
            for (int place = 0; place < counts[Count.QUEUED] && place < QUEUE_MOST; place++) {
                if (queue[place] == car) {
                    return place;
                }
            }
            return NONE;
        }

        int suitingLane(int length, int weight) {
            int best = NONE;
            for (int lane = 0; lane < LANES; lane++) {
                int left = weights[0] + (lane == 0 ? weight : 0);
                int right = weights[LANES - 1] + (lane == LANES - 1 ? weight : 0);
                int apart = left > right ? left - right : right - left;
                boolean isSuited = settings[Setting.LANE] - taken[lane] >= length && apart <= settings[Setting.LIST];
                if (isSuited && (best == NONE || weights[lane] < weights[best])) {
                    best = lane;
                }
            }
            return best;
        }

        private boolean isFreeSomewhere(int length) {
            for (int lane = 0; lane < LANES; lane++) {
                if (settings[Setting.LANE] - taken[lane] >= length) {
                    return true;
                }
            }
            return false;
        }

        int reasonFor(int car) {
            if (counts[Count.GATE] == 0) {
                return GATE_CLOSED;
            }
            if (counts[Count.RAMP] != NONE) {
                return RAMP_TAKEN;
            }
            int kind = carFact(car, Car.KIND);
            int weight = carFact(car, Car.WEIGHT);
            int length = kindFact(kind, Kind.LENGTH);
            if (!isFreeSomewhere(length)) {
                return LANES_SHORT;
            }
            if (counts[Count.LOAD] + weight > settings[Setting.LOAD]) {
                return LOAD_TOO_GREAT;
            }
            if (suitingLane(length, weight) == NONE) {
                return NONE_SUITS;
            }
            if (slope > kindFact(kind, Kind.STEEP)) {
                return SLOPE_TOO_GREAT;
            }
            return lip > kindFact(kind, Kind.LIP) ? LIP_TOO_GREAT : 0;
        }

        // ---- the queue

        int addCar(int kind, int weight) {
            int car = counts[Count.CARS];
            int place = counts[Count.QUEUED];
            if (car < 0 || car >= CARS_MOST || place < 0 || place >= QUEUE_MOST) {
                return NONE;
            }
            setCarFact(car, Car.KIND, kind);
            setCarFact(car, Car.WEIGHT, weight);
            setCarFact(car, Car.WHERE, IN_QUEUE);
            setCarFact(car, Car.LANE, NONE);
            setCarFact(car, Car.ARRIVED, counts[Count.TIME]);
            setCarFact(car, Car.BEGAN, NONE);
            setCarFact(car, Car.BOARDED, NONE);
            queue[place] = car;
            counts[Count.CARS]++;
            counts[Count.QUEUED]++;
            return car;
        }

        void takeFromQueue(int place) {
            int last = counts[Count.QUEUED] - 1;
            if (place < 0 || place > last || last >= QUEUE_MOST) {
                return;
            }
            for (int index = place; index < last; index++) {
                queue[index] = queue[index + 1];
            }
            counts[Count.QUEUED] = last;
        }

        void bringToFront(int place) {
            if (place < 0 || place >= counts[Count.QUEUED] || place >= QUEUE_MOST) {
                return;
            }
            int car = queue[place];
            for (int index = place; index > 0; index--) {
                queue[index] = queue[index - 1];
            }
            queue[0] = car;
        }

        // ---- a tick

        int passTicks(int many) {
            int before = counts[Count.BOARDED];
            for (int ticks = 0; ticks < many; ticks++) {
                counts[Count.TIME]++;
                measureAll();
                runWinch();
                runCarOnRamp();
                runQueue();
            }
            return counts[Count.BOARDED] - before;
        }

        private void runWinch() {
            if (counts[Count.WINCH] == ASLEEP && lip > settings[Setting.SLACK]) {
                counts[Count.WINCH] = WAKING;
                counts[Count.WAKE_LEFT] = settings[Setting.WAKE];
            } else if (counts[Count.WINCH] == WAKING) {
                counts[Count.WAKE_LEFT]--;
            }
            if (counts[Count.WINCH] == WAKING && counts[Count.WAKE_LEFT] <= 0) {
                counts[Count.WINCH] = AWAKE;
            }
            if (counts[Count.WINCH] == AWAKE) {
                pullEnd();
            }
        }

        private void pullEnd() {
            int step = lip < settings[Setting.PULL] ? lip : settings[Setting.PULL];
            counts[Count.END] += counts[Count.END] < deck ? step : -step;
            measureRamp();
            if (lip == 0) {
                counts[Count.WINCH] = ASLEEP;
            }
        }

        private void runCarOnRamp() {
            int car = counts[Count.RAMP];
            if (car == NONE) {
                return;
            }
            if (slope > carKindFact(car, Kind.STEEP) || lip > carKindFact(car, Kind.LIP)) {
                counts[Count.STOOD]++;
                return;
            }
            counts[Count.DRIVEN]++;
            if (slope > counts[Count.GREATEST_SLOPE]) {
                counts[Count.GREATEST_SLOPE] = slope;
            }
            // A CROSS that was set anew may be less than what the car has driven.
            if (counts[Count.DRIVEN] >= settings[Setting.CROSS]) {
                putOnDeck(car);
                measureAll();
            }
        }

        private void runQueue() {
            if (counts[Count.RAMP] != NONE || counts[Count.QUEUED] < 1) {
                return;
            }
            int reason = reasonFor(queue[0]);
            if (reason == 0) {
                begin(0);
            } else if (reason != GATE_CLOSED) {
                counts[Count.WAITING]++;
                // A PATIENCE that was set anew may be less than WAITING.
                if (counts[Count.WAITING] >= settings[Setting.PATIENCE]) {
                    callCrew(reason);
                }
            }
        }

        private void callCrew(int reason) {
            int first = queue[0];
            int began = NONE;
            for (int place = 1; place < counts[Count.QUEUED] && place < QUEUE_MOST; place++) {
                if (reasonFor(queue[place]) == 0) {
                    began = queue[place];
                    begin(place);
                    break;
                }
            }
            keepCall(first, reason, began);
            counts[Count.WAITING] = 0;
        }

        private void keepCall(int first, int reason, int began) {
            int spot = counts[Count.CALLS] % CALLS_KEPT * Call.FACTS;
            if (spot < 0 || spot + Call.FACTS > calls.length) {
                return;
            }
            calls[spot + Call.TIME] = counts[Count.TIME];
            calls[spot + Call.FIRST] = first;
            calls[spot + Call.REASON] = reason;
            calls[spot + Call.BEGAN] = began;
            counts[Count.CALLS]++;
        }

        private void begin(int place) {
            int car = at(queue, place);
            int weight = carFact(car, Car.WEIGHT);
            int length = kindFact(carFact(car, Car.KIND), Kind.LENGTH);
            int lane = suitingLane(length, weight);
            if (lane < 0 || lane >= LANES) {
                return;
            }
            takeFromQueue(place);
            setCarFact(car, Car.WHERE, ON_RAMP);
            setCarFact(car, Car.LANE, lane);
            setCarFact(car, Car.BEGAN, counts[Count.TIME]);
            weights[lane] += weight;
            taken[lane] += length;
            counts[Count.RAMP] = car;
            counts[Count.WAITING] = 0;
        }

        // ---- the deck

        private void putOnDeck(int car) {
            int lane = carFact(car, Car.LANE);
            if (lane < 0 || lane >= LANES || deckCars[lane] < 0 || deckCars[lane] >= LANE_MOST) {
                return;
            }
            onDeck[lane * LANE_MOST + deckCars[lane]] = car;
            deckCars[lane]++;
            setCarFact(car, Car.WHERE, ON_DECK);
            setCarFact(car, Car.BOARDED, counts[Count.TIME]);
            counts[Count.LOAD] += carFact(car, Car.WEIGHT);
            counts[Count.DECKED]++;
            counts[Count.BOARDED]++;
            counts[Count.RAMP] = NONE;
            counts[Count.DRIVEN] = 0;
        }

        void takeFromDeck(int lane) {
            int car = lastOnDeck(lane);
            if (car == NONE || lane < 0 || lane >= LANES) {
                return;
            }
            int weight = carFact(car, Car.WEIGHT);
            deckCars[lane]--;
            weights[lane] -= weight;
            taken[lane] -= carKindFact(car, Kind.LENGTH);
            setCarFact(car, Car.WHERE, UNLOADED);
            counts[Count.LOAD] -= weight;
            counts[Count.DECKED]--;
            counts[Count.UNLOADS]++;
            measureAll();
        }
    }

    /** The latest acts that can be undone: the states ahead of them, in a ring. */
    private static final class History {
        final State[] past = new State[UNDO_MOST];
        int next = 0;
        int many = 0;

        History() {
            for (int index = 0; index < UNDO_MOST; index++) {
                past[index] = new State();
            }
        }

        void remember(State state) {
            State kept = next >= 0 && next < UNDO_MOST ? past[next] : null;
            if (kept == null) {
                return;
            }
            kept.copyFrom(state);
            next = (next + 1) % UNDO_MOST;
            if (many < UNDO_MOST) {
                many++;
            }
        }

        int takeBack(State state) {
            if (many < 1) {
                return NONE;
            }
            int latest = (next + UNDO_MOST - 1) % UNDO_MOST;
            State kept = latest >= 0 ? past[latest] : null;
            if (kept == null) {
                return NONE;
            }
            state.copyFrom(kept);
            next = latest;
            many--;
            return many;
        }

        void forget() {
            many = 0;
        }
    }

    /**
     * The text buffer and its two readers. Behind the first error each step leaves
     * everything as it is, so that the readers need not ask behind every token.
     */
    private static final class Parser {
        static final int NOT_ALLOWED = 1;
        static final int OUT_OF_RANGE = 2;
        static final int TOLD_ALREADY = 3;
        static final int TOO_MANY = 4;

        static final int END_OF_TEXT = 0;
        static final int WORD = 1;
        static final int NUMBER = 2;
        static final int MINUS = 3;
        static final int SEMICOLON = 4;
        static final int SPACE = 5;
        static final int NO_TOKEN = 6;

        static final int TIDE = 0;
        static final int QUAY = 1;
        static final int DECK = 2;
        static final int LANES_WORD = 3;
        static final int WINCH = 4;
        static final int CROSS = 5;
        static final int KIND = 6;
        static final int CAR = 7;

        // Greater than every range's end: it stands for all numbers from there on.
        static final int HUGE = 100000;

        final int[] bytes = new int[TEXT_MOST];
        int length = 0;
        int errorCode = 0;
        int errorPosition = NONE;
        final int[] commands = new int[COMMANDS_MOST * Command.PARTS];
        int commandCount = 0;

        private int type = END_OF_TEXT;
        private int start = 0;
        private int end = 0;
        private int statementsTold = 0;
        private int kindsTold = 0;

        void addByte(int sign) {
            if (length >= 0 && length < bytes.length) {
                bytes[length] = sign;
                length++;
            }
        }

        int commandPart(int command, int part) {
            return command >= 0 && command < commandCount ? at(commands, command * Command.PARTS + part) : NONE;
        }

        // ---- setups

        boolean readSetup(State draft) {
            draft.becomeNew();
            statementsTold = 0;
            kindsTold = 0;
            readFirstToken();
            for (int read = 0; read <= TEXT_MOST && type != END_OF_TEXT && errorCode == 0; read++) {
                readStatement(draft);
            }
            draft.becomeLevel();
            return errorCode == 0;
        }

        private void readStatement(State draft) {
            int statement = statementHere();
            if (statement == NONE) {
                fail(NOT_ALLOWED);
            } else if (statement == CAR && draft.counts[Count.CARS] >= SETUP_CARS_MOST) {
                fail(TOO_MANY);
            } else if (statement < KIND && (statementsTold >> statement & 1) != 0) {
                fail(TOLD_ALREADY);
            } else {
                statementsTold |= 1 << statement;
                readToken();
                readSettings(statement, draft);
                readSemicolon();
            }
        }

        private int statementHere() {
            if (isHere("tide")) {
                return TIDE;
            }
            if (isHere("quay")) {
                return QUAY;
            }
            if (isHere("deck")) {
                return DECK;
            }
            if (isHere("lanes")) {
                return LANES_WORD;
            }
            if (isHere("winch")) {
                return WINCH;
            }
            if (isHere("cross")) {
                return CROSS;
            }
            if (isHere("kind")) {
                return KIND;
            }
            return isHere("car") ? CAR : NONE;
        }

        private void readSettings(int statement, State draft) {
            int[] settings = draft.settings;
            switch (statement) {
                case TIDE:
                    settings[Setting.LOW] = readHeight(-HEIGHT_MOST, HEIGHT_MOST);
                    settings[Setting.HIGH] = readHeight(settings[Setting.LOW], HEIGHT_MOST);
                    readWord("half");
                    settings[Setting.HALF] = readNumber(1, 99);
                    break;
                case QUAY:
                    settings[Setting.QUAY] = readHeight(-HEIGHT_MOST, HEIGHT_MOST);
                    break;
                case DECK:
                    settings[Setting.FREE] = readNumber(0, 300);
                    readWord("sink");
                    settings[Setting.SINK] = readNumber(1, 999);
                    break;
                case LANES_WORD:
                    settings[Setting.LANE] = readNumber(1, LANE_MOST);
                    readWord("load");
                    settings[Setting.LOAD] = readNumber(1, 9999);
                    readWord("list");
                    settings[Setting.LIST] = readNumber(0, 9999);
                    break;
                case WINCH:
                    settings[Setting.PULL] = readNumber(1, PULL_MOST);
                    settings[Setting.SLACK] = readNumber(0, SLACK_MOST);
                    settings[Setting.WAKE] = readNumber(0, WAKE_MOST);
                    break;
                case CROSS:
                    settings[Setting.CROSS] = readNumber(1, CROSS_MOST);
                    readWord("patience");
                    settings[Setting.PATIENCE] = readNumber(1, PATIENCE_MOST);
                    break;
                case KIND:
                    readKind(draft);
                    break;
                default:
                    readCar(draft);
                    break;
            }
        }

        private void readKind(State draft) {
            int position = start;
            int kind = readNumber(0, KINDS - 1);
            if (errorCode == 0 && (kindsTold >> kind & 1) != 0) {
                failAt(TOLD_ALREADY, position);
            }
            kindsTold |= 1 << kind;
            int steep = readNumber(0, 500);
            int lipMost = readNumber(0, 99);
            int carLength = readNumber(1, 9);
            draft.setKind(kind, steep, lipMost, carLength);
        }

        private void readCar(State draft) {
            int kind = readNumber(0, KINDS - 1);
            int weight = readNumber(1, WEIGHT_MOST);
            draft.addCar(kind, weight);
        }

        // ---- scripts

        boolean readScript() {
            commandCount = 0;
            readFirstToken();
            for (int read = 0; read <= TEXT_MOST && type != END_OF_TEXT && errorCode == 0; read++) {
                readCommand();
            }
            return errorCode == 0;
        }

        private void readCommand() {
            int command = commandHere();
            if (command == NONE) {
                fail(NOT_ALLOWED);
            } else if (commandCount >= COMMANDS_MOST) {
                fail(TOO_MANY);
            } else {
                readToken();
                readParts(command);
                readSemicolon();
            }
        }

        private int commandHere() {
            if (isHere("tick")) {
                return Command.TICK;
            }
            if (isHere("car")) {
                return Command.CAR;
            }
            if (isHere("wave")) {
                return Command.WAVE;
            }
            if (isHere("dismiss")) {
                return Command.DISMISS;
            }
            if (isHere("unload")) {
                return Command.UNLOAD;
            }
            if (isHere("gate")) {
                return Command.GATE;
            }
            if (isHere("crank")) {
                return Command.CRANK;
            }
            if (isHere("winch")) {
                return Command.WINCH;
            }
            return isHere("cross") ? Command.CROSS : NONE;
        }

        private void readParts(int command) {
            int first = 0;
            int second = 0;
            int third = 0;
            switch (command) {
                case Command.TICK:
                    first = type == NUMBER ? readNumber(1, TICKS_MOST) : 1;
                    break;
                case Command.CAR:
                    first = readNumber(0, KINDS - 1);
                    second = readNumber(1, WEIGHT_MOST);
                    break;
                case Command.UNLOAD:
                    first = readNumber(0, LANES - 1);
                    break;
                case Command.GATE:
                    first = readGate();
                    break;
                case Command.CRANK:
                    first = readHeight(-CRANK_MOST, CRANK_MOST);
                    break;
                case Command.WINCH:
                    first = readNumber(1, PULL_MOST);
                    second = readNumber(0, SLACK_MOST);
                    third = readNumber(0, WAKE_MOST);
                    break;
                case Command.CROSS:
                    first = readNumber(1, CROSS_MOST);
                    readWord("patience");
                    second = readNumber(1, PATIENCE_MOST);
                    break;
                default:
                    first = readNumber(0, CARS_MOST - 1);
                    break;
            }
            addCommand(command, first, second, third);
        }

        private int readGate() {
            if (isHere("open")) {
                readToken();
                return 1;
            }
            readWord("closed");
            return 0;
        }

        private void addCommand(int command, int first, int second, int third) {
            int spot = commandCount * Command.PARTS;
            if (spot < 0 || spot + Command.PARTS > commands.length) {
                return;
            }
            commands[spot + Command.WHAT] = command;
            commands[spot + Command.FIRST] = first;
            commands[spot + Command.SECOND] = second;
            commands[spot + Command.THIRD] = third;
            commandCount++;
        }

        // ---- what both are made of

        private int readHeight(int least, int most) {
            boolean isMinus = errorCode == 0 && type == MINUS;
            if (isMinus) {
                readToken();
            }
            int position = start;
            int number = readNumber(0, most);
            int height = isMinus ? -number : number;
            if (errorCode == 0 && height < least) {
                failAt(OUT_OF_RANGE, position);
            }
            return height;
        }

        private int readNumber(int least, int most) {
            if (type != NUMBER) {
                fail(NOT_ALLOWED);
                return least;
            }
            int number = numberHere();
            if (number < least || number > most) {
                fail(OUT_OF_RANGE);
                return least;
            }
            readToken();
            return number;
        }

        private void readWord(String word) {
            if (isHere(word)) {
                readToken();
            } else {
                fail(NOT_ALLOWED);
            }
        }

        private void readSemicolon() {
            if (type == SEMICOLON) {
                readToken();
            } else {
                fail(NOT_ALLOWED);
            }
        }

        private void fail(int code) {
            failAt(code, start);
        }

        private void failAt(int code, int position) {
            if (errorCode == 0) {
                errorCode = code;
                errorPosition = position;
            }
        }

        // ---- tokens

        private void readFirstToken() {
            errorCode = 0;
            errorPosition = NONE;
            end = 0;
            readToken();
        }

        private void readToken() {
            if (errorCode != 0) {
                return;
            }
            int index = end;
            while (index < length && typeAt(index) == SPACE) {
                index++;
            }
            start = index;
            type = typeAt(index);
            if (type == WORD || type == NUMBER) {
                while (index < length && typeAt(index) == type) {
                    index++;
                }
            } else if (type != END_OF_TEXT) {
                index++;
            }
            end = index;
        }

        private int typeAt(int index) {
            if (index < 0 || index >= length || index >= bytes.length) {
                return END_OF_TEXT;
            }
            int sign = bytes[index];
            if (sign >= 'a' && sign <= 'z') {
                return WORD;
            }
            if (sign >= '0' && sign <= '9') {
                return NUMBER;
            }
            if (sign == '-') {
                return MINUS;
            }
            if (sign == ';') {
                return SEMICOLON;
            }
            return sign == ' ' || sign == '\n' ? SPACE : NO_TOKEN;
        }

        private boolean isHere(String word) {
            if (type != WORD || end - start != word.length()) {
                return false;
            }
            for (int index = 0; index < word.length(); index++) {
                if (at(bytes, start + index) != word.charAt(index)) {
                    return false;
                }
            }
            return true;
        }

        private int numberHere() {
            int number = 0;
            for (int index = start; index < end; index++) {
                number = number * 10 + at(bytes, index) - '0';
                if (number > HUGE) {
                    number = HUGE;
                }
            }
            return number;
        }
    }
}
