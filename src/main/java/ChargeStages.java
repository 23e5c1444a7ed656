/**
 * A charger for a battery of cells in a row. ../shared/DOC.md tells what every call answers; here
 * the calls look at their arguments, and the classes below do the work.
 *
 * <p>All rows are made by the constructor and used again, so that no call makes an object.
 */
public final class ChargeStages {
    public static final int UNKNOWN = -1;
    public static final int BAD_VALUE = -2;
    public static final int FULL = -3;
    public static final int NOT_POSSIBLE = -4;
    public static final int NONE = -5;

    private static final int CAPACITY = 0;
    private static final int RESISTANCE = 1;
    private static final int EFFICIENCY = 2;
    private static final int TEMPERATURE = 3;
    private static final int COMPENSATION = 4;
    private static final int LOWEST = 5;
    private static final int HIGHEST = 6;
    private static final int THRESHOLD = 7;
    private static final int BLEED = 8;
    private static final int SETTINGS = 9;
    private static final int[] SETTING_LEAST = {100, 0, 50, -30, 0, -30, -30, 0, 0};
    private static final int[] SETTING_MOST = {5000, 200, 100, 80, 10, 80, 80, 500, 50};
    private static final int[] SETTING_FIRST = {1000, 100, 90, 25, 3, 0, 45, 20, 0};
    /** Added to a setting or a temperature that is told, so that a negative one is no error. */
    private static final int TOLD_ABOVE = 1000;

    private static final int IDLE = 0;
    private static final int CHARGING = 1;
    private static final int DONE = 2;
    private static final int AT_FAULT = 3;

    private static final int CONSTANT_CURRENT = 0;
    private static final int HELD_VOLTAGE = 1;
    private static final int REST = 2;

    private static final int STAGE_BEGAN = 0;
    private static final int WAS_DONE = 1;
    private static final int WAS_AT_FAULT = 2;
    private static final int PAUSE_BEGAN = 3;

    private static final int FIRST_CELLS = 3;
    private static final int MOST_CELLS = 6;
    private static final int MOST_STAGES = 5;
    private static final int MOST_EVENTS = 10;
    private static final int MOST_STATES = 4;
    private static final int MOST_CHARACTERS = 60;
    private static final int MOST_CURRENT = 2000;
    private static final int MOST_DRAWN = 5000;
    private static final int MOST_PASSED = 200;
    private static final int LAST_TICK = 99999;
    private static final int DONE_IN_MOST = 2000;
    private static final int WARMEST_MOST = 500;
    private static final int FAULT_OFFSET = -100;

    private final State now = new State();
    /** Where forecasts are run, so that nothing is changed by them. */
    private final State forecast = new State();
    private final State snapshot = new State();
    private boolean hasSnapshot = false;
    private final History history = new History();
    private final Text text = new Text();
    /** Where a text is read to, so that a faulty one leaves the profile as it is. */
    private final Profile draft = new Profile();

    public ChargeStages() {
        now.setUp();
    }

    // ---- the battery

    public int battery(int cells) {
        if (cells < 1 || cells > MOST_CELLS) {
            return BAD_VALUE;
        }
        int before = now.row.cells;
        history.add(now);
        now.row.putEmpty(cells);
        now.mode = IDLE;
        return before;
    }

    public int setCharge(int cell, int charge) {
        if (!now.row.has(cell)) {
            return UNKNOWN;
        }
        if (charge < 0 || charge > now.settings[CAPACITY]) {
            return BAD_VALUE;
        }
        int before = now.row.charge[cell];
        if (before == charge && now.row.rest[cell] == 0) {
            return NONE;
        }
        history.add(now);
        now.row.charge[cell] = charge;
        now.row.rest[cell] = 0;
        return before;
    }

    public int use(int amount) {
        if (amount < 1 || amount > MOST_DRAWN) {
            return BAD_VALUE;
        }
        if (now.mode == CHARGING || now.row.leastCharge() < amount) {
            return NOT_POSSIBLE;
        }
        history.add(now);
        now.row.draw(amount);
        return now.row.leastCharge();
    }

    public int set(int which, int value) {
        if (!isSetting(which)) {
            return UNKNOWN;
        }
        if (value < SETTING_LEAST[which] || value > SETTING_MOST[which]) {
            return BAD_VALUE;
        }
        if (!now.allows(which, value)) {
            return NOT_POSSIBLE;
        }
        int before = now.settings[which];
        if (before == value) {
            return NONE;
        }
        history.add(now);
        now.settings[which] = value;
        return before + TOLD_ABOVE;
    }

    // ---- charging

    public int readProfile() {
        if (!text.readInto(draft)) {
            return FAULT_OFFSET - text.place;
        }
        if (!draft.isInRange()) {
            return BAD_VALUE;
        }
        if (now.mode == CHARGING) {
            return NOT_POSSIBLE;
        }
        history.add(now);
        now.profile.copyFrom(draft);
        return now.profile.stages;
    }

    public int start() {
        if (now.mode == CHARGING || now.profile.stages == 0) {
            return NOT_POSSIBLE;
        }
        int before = now.mode;
        history.add(now);
        now.beginCharging();
        return before;
    }

    public int stop() {
        int before = now.mode;
        if (before == IDLE) {
            return NONE;
        }
        history.add(now);
        now.mode = IDLE;
        return before;
    }

    public int pass(int ticks) {
        if (ticks < 1 || ticks > MOST_PASSED) {
            return BAD_VALUE;
        }
        if (now.tick + ticks > LAST_TICK) {
            return FULL;
        }
        history.add(now);
        now.passTicks(ticks);
        return now.mode;
    }

    // ---- texts

    public int type(char character) {
        if (text.length >= MOST_CHARACTERS) {
            return FULL;
        }
        text.add(character);
        return text.length;
    }

    public int clearText() {
        int before = text.length;
        text.length = 0;
        return before;
    }

    // ---- history

    public int undo() {
        if (history.states == 0) {
            return NONE;
        }
        history.takeInto(now);
        return history.states;
    }

    public int keep() {
        snapshot.copyFrom(now);
        hasSnapshot = true;
        return now.tick;
    }

    public int restore() {
        if (!hasSnapshot) {
            return NONE;
        }
        history.add(now);
        now.copyFrom(snapshot);
        return now.tick;
    }

    // ---- what is told

    public int cell(int cell, int what) {
        if (!now.row.has(cell)) {
            return UNKNOWN;
        }
        switch (what) {
            case 0:
                return now.row.charge[cell];
            case 1:
                return baseVoltage(now.row.charge[cell], now.settings[CAPACITY]);
            case 2:
                return now.row.rest[cell];
            case 3:
                return now.row.cameIn[cell];
            case 4:
                return now.row.stored[cell];
            case 5:
                return now.row.spilled[cell];
            case 6:
                return now.row.bled[cell];
            case 7:
                return now.row.used[cell];
            case 8:
                return now.row.cameIn[cell] - now.row.stored[cell];
            default:
                return BAD_VALUE;
        }
    }

    public int setting(int which) {
        return isSetting(which) ? now.settings[which] + TOLD_ABOVE : UNKNOWN;
    }

    public int stage(int stage, int what) {
        Profile profile = now.profile;
        if (!profile.has(stage)) {
            return UNKNOWN;
        }
        switch (what) {
            case 0:
                return profile.kind[stage];
            case 1:
                return profile.first[stage];
            case 2:
                return profile.second[stage];
            case 3:
                return profile.timer[stage];
            case 4:
                return profile.kind[stage] == REST ? NONE : now.limitOfNow(stage);
            default:
                return BAD_VALUE;
        }
    }

    public int voltage(int current) {
        return current < 0 || current > MOST_CURRENT ? BAD_VALUE : now.greatestVoltage(current);
    }

    public int current() {
        return now.mode != CHARGING || now.isPaused() ? 0 : Math.max(0, now.currentOfStage());
    }

    public int doneIn() {
        if (now.mode == DONE) {
            return 0;
        }
        forecast.copyFrom(now);
        return forecast.runUntilDone(DONE_IN_MOST);
    }

    public int chargeIn(int cell, int ticks) {
        if (!now.row.has(cell)) {
            return UNKNOWN;
        }
        if (ticks < 0 || ticks > MOST_PASSED) {
            return BAD_VALUE;
        }
        forecast.copyFrom(now);
        forecast.passTicks(ticks);
        return forecast.row.charge[cell];
    }

    public int warmest() {
        if (now.mode != CHARGING) {
            return NOT_POSSIBLE;
        }
        int lowest = now.settings[LOWEST];
        for (int temperature = now.settings[HIGHEST]; temperature >= lowest; temperature--) {
            forecast.copyFrom(now);
            forecast.settings[TEMPERATURE] = temperature;
            if (forecast.runUntilDone(WARMEST_MOST) != NONE) {
                return temperature + TOLD_ABOVE;
            }
        }
        return NONE;
    }

    public int event(int back, int what) {
        if (back < 0 || what < 0 || what > 2) {
            return BAD_VALUE;
        }
        if (back >= now.log.events) {
            return NONE;
        }
        int place = now.log.placeOf(back);
        switch (what) {
            case 0:
                return now.log.kind[place];
            case 1:
                return now.log.tick[place];
            default:
                return now.log.stage[place];
        }
    }

    public int count(int what) {
        switch (what) {
            case 0:
                return now.tick;
            case 1:
                return now.row.cells;
            case 2:
                return now.profile.stages;
            case 3:
                return now.mode;
            case 4:
                return now.mode == CHARGING ? now.stage : NONE;
            case 5:
                return now.mode == CHARGING ? now.lasted : 0;
            case 6:
                return now.pausedTicks;
            case 7:
                return now.row.leastCharge();
            case 8:
                return now.row.greatestCharge();
            case 9:
                return now.isPaused() ? 1 : 0;
            case 10:
                return now.timesDone;
            case 11:
                return now.timesAtFault;
            case 12:
                return history.states;
            case 13:
                return text.length;
            default:
                return BAD_VALUE;
        }
    }

    private static boolean isSetting(int which) {
        return which >= 0 && which < SETTINGS;
    }

    private static boolean isIn(int number, int least, int most) {
        return number >= least && number <= most;
    }

    private static int baseVoltage(int charge, int capacity) {
        return capacity > 0 ? 3000 + 1200 * charge / capacity : 3000;
    }

    /** The cells, a row for each number that is told of them. */
    private static final class Battery {
        int cells = FIRST_CELLS;
        final int[] charge = new int[MOST_CELLS];
        final int[] rest = new int[MOST_CELLS];
        final int[] cameIn = new int[MOST_CELLS];
        final int[] stored = new int[MOST_CELLS];
        final int[] spilled = new int[MOST_CELLS];
        final int[] bled = new int[MOST_CELLS];
        final int[] used = new int[MOST_CELLS];

        boolean has(int cell) {
            return cell >= 0 && cell < cells;
        }

        void putEmpty(int howMany) {
            cells = Math.max(1, Math.min(howMany, MOST_CELLS));
            for (int cell = 0; cell < MOST_CELLS; cell++) {
                charge[cell] = 0;
                rest[cell] = 0;
                cameIn[cell] = 0;
                stored[cell] = 0;
                spilled[cell] = 0;
                bled[cell] = 0;
                used[cell] = 0;
            }
        }

        void copyFrom(Battery other) {
            cells = other.cells;
            System.arraycopy(other.charge, 0, charge, 0, MOST_CELLS);
            System.arraycopy(other.rest, 0, rest, 0, MOST_CELLS);
            System.arraycopy(other.cameIn, 0, cameIn, 0, MOST_CELLS);
            System.arraycopy(other.stored, 0, stored, 0, MOST_CELLS);
            System.arraycopy(other.spilled, 0, spilled, 0, MOST_CELLS);
            System.arraycopy(other.bled, 0, bled, 0, MOST_CELLS);
            System.arraycopy(other.used, 0, used, 0, MOST_CELLS);
        }

        int leastCharge() {
            int least = charge[0];
            for (int cell = 1; cell < cells; cell++) {
                least = Math.min(least, charge[cell]);
            }
            return least;
        }

        int greatestCharge() {
            int greatest = charge[0];
            for (int cell = 1; cell < cells; cell++) {
                greatest = Math.max(greatest, charge[cell]);
            }
            return greatest;
        }

        void draw(int amount) {
            for (int cell = 0; cell < cells; cell++) {
                charge[cell] -= amount;
                used[cell] += amount;
            }
        }

        void takeIn(int current, int efficiency, int capacity) {
            for (int cell = 0; cell < cells; cell++) {
                int hundredths = rest[cell] + current * efficiency;
                int more = hundredths / 100;
                int full = charge[cell] + more;
                int over = Math.max(0, full - capacity);
                cameIn[cell] += current;
                rest[cell] = hundredths % 100;
                stored[cell] += more;
                spilled[cell] += over;
                charge[cell] = full - over;
            }
        }

        void loseTo(int bleed, int threshold, int capacity) {
            // The least voltage is taken ahead of any loss: a loss may make a new least one.
            int most = baseVoltage(leastCharge(), capacity) + threshold;
            for (int cell = 0; cell < cells; cell++) {
                if (baseVoltage(charge[cell], capacity) > most) {
                    int lost = Math.min(bleed, charge[cell]);
                    charge[cell] -= lost;
                    bled[cell] += lost;
                }
            }
        }
    }

    /** The stages, with their numbers in the order in which a text tells them. */
    private static final class Profile {
        int stages = 0;
        final int[] kind = new int[MOST_STAGES];
        final int[] first = new int[MOST_STAGES];
        final int[] second = new int[MOST_STAGES];
        final int[] timer = new int[MOST_STAGES];

        boolean has(int stage) {
            return stage >= 0 && stage < stages;
        }

        /** Adds a stage without numbers; false if there is no more room. */
        boolean addStage(int itsKind) {
            if (stages >= MOST_STAGES) {
                return false;
            }
            kind[stages] = itsKind;
            first[stages] = 0;
            second[stages] = 0;
            timer[stages] = 0;
            stages++;
            return true;
        }

        void copyFrom(Profile other) {
            stages = other.stages;
            System.arraycopy(other.kind, 0, kind, 0, MOST_STAGES);
            System.arraycopy(other.first, 0, first, 0, MOST_STAGES);
            System.arraycopy(other.second, 0, second, 0, MOST_STAGES);
            System.arraycopy(other.timer, 0, timer, 0, MOST_STAGES);
        }

        boolean isInRange() {
            for (int stage = 0; stage < stages; stage++) {
                if (!hasNumbersInRange(stage) || !isIn(timer[stage], 0, 999)) {
                    return false;
                }
            }
            return true;
        }

        private boolean hasNumbersInRange(int stage) {
            switch (kind[stage]) {
                case CONSTANT_CURRENT:
                    return isIn(first[stage], 1, MOST_CURRENT) && isIn(second[stage], 3000, 4500);
                case HELD_VOLTAGE:
                    return isIn(first[stage], 3000, 4500) && isIn(second[stage], 0, MOST_CURRENT);
                default:
                    return isIn(first[stage], 1, 999);
            }
        }

        int limitOf(int stage) {
            return kind[stage] == HELD_VOLTAGE ? first[stage] : second[stage];
        }
    }

    /** The latest events, in rows that are gone round in. */
    private static final class Log {
        int events = 0;
        private int next = 0;
        final int[] kind = new int[MOST_EVENTS];
        final int[] tick = new int[MOST_EVENTS];
        final int[] stage = new int[MOST_EVENTS];

        void add(int itsKind, int itsTick, int itsStage) {
            kind[next] = itsKind;
            tick[next] = itsTick;
            stage[next] = itsStage;
            next = (next + 1) % MOST_EVENTS;
            if (events < MOST_EVENTS) {
                events++;
            }
        }

        int placeOf(int back) {
            return Math.floorMod(next - 1 - back, MOST_EVENTS);
        }

        void copyFrom(Log other) {
            events = other.events;
            next = other.next;
            System.arraycopy(other.kind, 0, kind, 0, MOST_EVENTS);
            System.arraycopy(other.tick, 0, tick, 0, MOST_EVENTS);
            System.arraycopy(other.stage, 0, stage, 0, MOST_EVENTS);
        }
    }

    /** All that the history keeps, and what a tick does to it. */
    private static final class State {
        private static final int ENDS_AS_IT_BEGINS = -1;

        final int[] settings = new int[SETTINGS];
        final Battery row = new Battery();
        final Profile profile = new Profile();
        final Log log = new Log();
        int mode = IDLE;
        int stage = 0;
        int lasted = 0;
        int tick = 0;
        int pausedTicks = 0;
        /** Whether the latest tick was a paused one, and none since was begun by start(). */
        private boolean wasPaused = false;
        int timesDone = 0;
        int timesAtFault = 0;

        void setUp() {
            System.arraycopy(SETTING_FIRST, 0, settings, 0, SETTINGS);
        }

        void copyFrom(State other) {
            System.arraycopy(other.settings, 0, settings, 0, SETTINGS);
            row.copyFrom(other.row);
            profile.copyFrom(other.profile);
            log.copyFrom(other.log);
            mode = other.mode;
            stage = other.stage;
            lasted = other.lasted;
            tick = other.tick;
            pausedTicks = other.pausedTicks;
            wasPaused = other.wasPaused;
            timesDone = other.timesDone;
            timesAtFault = other.timesAtFault;
        }

        /** Whether a setting may have a value of its range, by what else there is. */
        boolean allows(int which, int value) {
            switch (which) {
                case CAPACITY:
                    return value >= row.greatestCharge();
                case LOWEST:
                    return value <= settings[HIGHEST];
                case HIGHEST:
                    return value >= settings[LOWEST];
                default:
                    return true;
            }
        }

        boolean isPaused() {
            return mode == CHARGING
                    && !isIn(settings[TEMPERATURE], settings[LOWEST], settings[HIGHEST]);
        }

        int limitOfNow(int which) {
            return profile.limitOf(which) - settings[COMPENSATION] * (settings[TEMPERATURE] - 25);
        }

        int greatestVoltage(int current) {
            return baseVoltage(row.greatestCharge(), settings[CAPACITY])
                    + current * settings[RESISTANCE] / 1000;
        }

        void beginCharging() {
            mode = CHARGING;
            wasPaused = false;
            begin(0);
        }

        private void begin(int which) {
            stage = which;
            lasted = 0;
            log.add(STAGE_BEGAN, tick, stage);
        }

        void passTicks(int ticks) {
            for (int passed = 0; passed < ticks; passed++) {
                passOneTick();
            }
        }

        /** In how many ticks, up to some, the charger is done by them; NONE if it is not. */
        int runUntilDone(int mostTicks) {
            // A pause stays for ever, as nothing changes the temperature.
            for (int ticks = 1; ticks <= mostTicks && mode == CHARGING && !isPaused(); ticks++) {
                passOneTick();
                if (mode == DONE) {
                    return ticks;
                }
            }
            return NONE;
        }

        private void passOneTick() {
            boolean paused = isPaused();
            if (paused) {
                countPausedTick();
            } else if (mode == CHARGING) {
                charge();
            }
            wasPaused = paused;
            if (settings[BLEED] > 0) {
                row.loseTo(settings[BLEED], settings[THRESHOLD], settings[CAPACITY]);
            }
            tick++;
        }

        private void countPausedTick() {
            if (!wasPaused) {
                log.add(PAUSE_BEGAN, tick, stage);
            }
            pausedTicks++;
        }

        private void charge() {
            int current = currentOfStage();
            boolean ends = current == ENDS_AS_IT_BEGINS;
            if (!ends) {
                row.takeIn(current, settings[EFFICIENCY], settings[CAPACITY]);
                lasted++;
                ends = endsBehind(current);
            }
            if (ends) {
                endStage();
            } else if (hasRunOut()) {
                mode = AT_FAULT;
                timesAtFault++;
                log.add(WAS_AT_FAULT, tick, stage);
            }
        }

        private void endStage() {
            if (profile.has(stage + 1)) {
                begin(stage + 1);
            } else {
                mode = DONE;
                timesDone++;
                log.add(WAS_DONE, tick, stage);
            }
        }

        private boolean hasRunOut() {
            return profile.has(stage) && profile.timer[stage] > 0 && lasted >= profile.timer[stage];
        }

        /** The current that the stage tells, or ENDS_AS_IT_BEGINS. */
        int currentOfStage() {
            if (!profile.has(stage)) {
                return ENDS_AS_IT_BEGINS;
            }
            switch (profile.kind[stage]) {
                case CONSTANT_CURRENT:
                    return profile.first[stage];
                case HELD_VOLTAGE:
                    int held = heldCurrent(limitOfNow(stage) - greatestVoltage(0));
                    return held <= profile.second[stage] ? ENDS_AS_IT_BEGINS : held;
                default:
                    return 0;
            }
        }

        /** The greatest current that adds no more than the room to a voltage; 0 if none does. */
        private int heldCurrent(int room) {
            int resistance = settings[RESISTANCE];
            if (room < 0) {
                return 0;
            }
            if (resistance <= 0) {
                return MOST_CURRENT;
            }
            // What it adds is rounded down, so current * resistance stays below (room + 1) * 1000.
            return Math.min(MOST_CURRENT, ((room + 1) * 1000 - 1) / resistance);
        }

        private boolean endsBehind(int current) {
            if (!profile.has(stage)) {
                return true;
            }
            switch (profile.kind[stage]) {
                case CONSTANT_CURRENT:
                    return greatestVoltage(current) >= limitOfNow(stage);
                case REST:
                    return lasted >= profile.first[stage];
                default:
                    return false;
            }
        }
    }

    /** The states that undo() can come back to, the latest one last. */
    private static final class History {
        int states = 0;
        private final State[] kept = new State[MOST_STATES];

        History() {
            for (int place = 0; place < MOST_STATES; place++) {
                kept[place] = new State();
            }
        }

        void add(State state) {
            if (states == MOST_STATES) {
                dropOldest();
            }
            kept[states].copyFrom(state);
            states++;
        }

        private void dropOldest() {
            State oldest = kept[0];
            for (int place = 1; place < MOST_STATES; place++) {
                kept[place - 1] = kept[place];
            }
            // Its rows are used again for the state that comes.
            kept[MOST_STATES - 1] = oldest;
            states--;
        }

        void takeInto(State state) {
            if (states > 0) {
                states--;
                state.copyFrom(kept[states]);
            }
        }
    }

    /** The text, and the place up to which it has been read. */
    private static final class Text {
        private static final int NO_NUMBER = -1;

        int length = 0;
        /** Where reading stopped: the fault, if it failed. */
        int place = 0;
        private final char[] characters = new char[MOST_CHARACTERS];

        void add(char character) {
            if (length < MOST_CHARACTERS) {
                characters[length] = character;
                length++;
            }
        }

        /** False if the text has a fault; it is at the place then. */
        boolean readInto(Profile profile) {
            place = 0;
            profile.stages = 0;
            for (int stages = 1; stages <= MOST_STAGES; stages++) {
                if (!readStage(profile)) {
                    return false;
                }
                if (place == length) {
                    return true;
                }
                if (stages == MOST_STAGES || !accepts(';')) {
                    return false;
                }
            }
            return false;
        }

        private boolean readStage(Profile profile) {
            int stage = profile.stages;
            if (accepts('c')) {
                return profile.addStage(CONSTANT_CURRENT) && readPair(profile, stage)
                        && readTimer(profile, stage);
            }
            if (accepts('v')) {
                return profile.addStage(HELD_VOLTAGE) && readPair(profile, stage)
                        && readTimer(profile, stage);
            }
            return accepts('r') && profile.addStage(REST) && readFirst(profile, stage)
                    && readTimer(profile, stage);
        }

        private boolean readPair(Profile profile, int stage) {
            if (!readFirst(profile, stage) || !accepts(':')) {
                return false;
            }
            int number = readNumber('0');
            profile.second[stage] = number;
            return number != NO_NUMBER;
        }

        private boolean readFirst(Profile profile, int stage) {
            int number = readNumber('0');
            profile.first[stage] = number;
            return number != NO_NUMBER;
        }

        private boolean readTimer(Profile profile, int stage) {
            if (!accepts('/')) {
                return true;
            }
            int number = readNumber('1');
            profile.timer[stage] = number;
            return number != NO_NUMBER;
        }

        private boolean accepts(char wanted) {
            if (place >= length || characters[place] != wanted) {
                return false;
            }
            place++;
            return true;
        }

        private boolean isDigitAhead(char least) {
            return place < length && characters[place] >= least && characters[place] <= '9';
        }

        private int readNumber(char leastFirst) {
            if (!isDigitAhead(leastFirst)) {
                return NO_NUMBER;
            }
            int number = characters[place] - '0';
            place++;
            // Nothing goes behind a 0: a digit there is left as the fault.
            for (int digits = 1; digits < 4 && number > 0 && isDigitAhead('0'); digits++) {
                number = number * 10 + characters[place] - '0';
                place++;
            }
            return number;
        }
    }
}
