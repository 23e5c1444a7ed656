import java.util.ArrayDeque;
import java.util.ArrayList;
import java.util.Arrays;
import java.util.Deque;
import java.util.List;
import java.util.regex.Matcher;
import java.util.regex.Pattern;

/**
 * The document once more, in other words: whole copies, currents that are tried out one by one, and
 * texts that are read by a pattern. Slow, and meant to share no slip with ChargeStages.
 */
final class PlainCharger {
    private static final String NUMBER = "(0|[1-9][0-9]{0,3})";
    private static final String STAGE = "(c" + NUMBER + ":" + NUMBER + "|v" + NUMBER + ":" + NUMBER
            + "|r" + NUMBER + ")(/[1-9][0-9]{0,3})?";
    private static final Pattern PROFILE = Pattern.compile(STAGE + "(;" + STAGE + "){0,4}");
    private static final int[][] RANGES = {{100, 5000}, {0, 200}, {50, 100}, {-30, 80}, {0, 10},
        {-30, 80}, {-30, 80}, {0, 500}, {0, 50}};

    /** A cell: charge, rest, came in, stored, spilled, bled, used. */
    private static final class World {
        List<int[]> cells = new ArrayList<>();
        int[] settings = {1000, 100, 90, 25, 3, 0, 45, 20, 0};
        List<int[]> stages = new ArrayList<>();
        List<int[]> events = new ArrayList<>();
        int state;
        int stage;
        int lasted;
        int tick;
        int paused;
        boolean pausedBefore;
        int done;
        int faults;

        World copy() {
            World w = new World();
            cells.forEach(c -> w.cells.add(c.clone()));
            w.settings = settings.clone();
            w.stages.addAll(stages);
            w.events.addAll(events);
            w.state = state;
            w.stage = stage;
            w.lasted = lasted;
            w.tick = tick;
            w.paused = paused;
            w.pausedBefore = pausedBefore;
            w.done = done;
            w.faults = faults;
            return w;
        }

        void empty(int number) {
            cells.clear();
            for (int i = 0; i < number; i++) {
                cells.add(new int[7]);
            }
        }

        int base(int[] cell) {
            return 3000 + 1200 * cell[0] / settings[0];
        }

        int voltage(int current) {
            return cells.stream().mapToInt(c -> base(c) + current * settings[1] / 1000).max().orElse(0);
        }

        boolean isPaused() {
            return state == 1 && (settings[3] < settings[5] || settings[3] > settings[6]);
        }

        int limit(int[] stageRow) {
            return stageRow[stageRow[0] == 0 ? 2 : 1] - settings[4] * (settings[3] - 25);
        }

        /** The current that the stage tells, or -1 if it ends as the tick begins. */
        int told() {
            int[] s = stages.get(stage);
            if (s[0] == 0) {
                return s[1];
            }
            if (s[0] == 2) {
                return 0;
            }
            int greatest = 0;
            int base = voltage(0);
            for (int current = 0; current <= 2000; current++) {
                if (base + current * settings[1] / 1000 <= limit(s)) {
                    greatest = current;
                }
            }
            return greatest <= s[2] ? -1 : greatest;
        }

        void log(int kind) {
            events.add(0, new int[] {kind, tick, stage});
        }

        void tick() {
            boolean pause = isPaused();
            if (pause) {
                paused++;
                if (!pausedBefore) {
                    log(3);
                }
            } else if (state == 1) {
                charge();
            }
            pausedBefore = pause;
            int[] bases = cells.stream().mapToInt(this::base).toArray();
            int least = Arrays.stream(bases).min().orElse(0);
            for (int i = 0; i < bases.length; i++) {
                if (bases[i] - least > settings[7]) {
                    int loss = Math.min(settings[8], cells.get(i)[0]);
                    cells.get(i)[0] -= loss;
                    cells.get(i)[5] += loss;
                }
            }
            tick++;
        }

        void charge() {
            int current = told();
            int[] s = stages.get(stage);
            boolean ends = current < 0;
            if (!ends) {
                for (int[] c : cells) {
                    c[2] += current;
                    c[1] += current * settings[2];
                    c[0] += c[1] / 100;
                    c[3] += c[1] / 100;
                    c[1] -= c[1] / 100 * 100;
                    if (c[0] > settings[0]) {
                        c[4] += c[0] - settings[0];
                        c[0] = settings[0];
                    }
                }
                lasted++;
                ends = s[0] == 0 && voltage(current) >= limit(s) || s[0] == 2 && lasted == s[1];
            }
            if (ends && stage + 1 < stages.size()) {
                stage++;
                lasted = 0;
                log(0);
            } else if (ends) {
                state = 2;
                done++;
                log(1);
            } else if (s[3] > 0 && lasted == s[3]) {
                state = 3;
                faults++;
                log(2);
            }
        }

        int doneWithin(int ticks) {
            World w = copy();
            for (int i = 1; i <= ticks; i++) {
                w.tick();
                if (w.state == 2) {
                    return i;
                }
            }
            return -5;
        }
    }

    private World now = new World();
    private final Deque<World> history = new ArrayDeque<>();
    private World snapshot = null;
    private String text = "";

    PlainCharger() {
        now.empty(3);
    }

    private void act() {
        history.addLast(now.copy());
        if (history.size() > 4) {
            history.removeFirst();
        }
    }

    private boolean noCell(int cell) {
        return cell < 0 || cell >= now.cells.size();
    }

    private static boolean out(int value, int least, int most) {
        return value < least || value > most;
    }

    int battery(int cells) {
        if (out(cells, 1, 6)) {
            return -2;
        }
        act();
        int before = now.cells.size();
        now.empty(cells);
        now.state = 0;
        return before;
    }

    int setCharge(int cell, int charge) {
        if (noCell(cell)) {
            return -1;
        }
        if (out(charge, 0, now.settings[0])) {
            return -2;
        }
        if (now.cells.get(cell)[0] == charge && now.cells.get(cell)[1] == 0) {
            return -5;
        }
        act();
        int before = now.cells.get(cell)[0];
        now.cells.get(cell)[0] = charge;
        now.cells.get(cell)[1] = 0;
        return before;
    }

    int use(int amount) {
        if (out(amount, 1, 5000)) {
            return -2;
        }
        if (now.state == 1 || now.cells.stream().anyMatch(c -> c[0] < amount)) {
            return -4;
        }
        act();
        now.cells.forEach(c -> c[0] -= amount);
        now.cells.forEach(c -> c[6] += amount);
        return count(7);
    }

    int set(int which, int value) {
        if (out(which, 0, 8)) {
            return -1;
        }
        if (out(value, RANGES[which][0], RANGES[which][1])) {
            return -2;
        }
        int[] then = now.settings.clone();
        then[which] = value;
        if (then[5] > then[6] || which == 0 && count(8) > value) {
            return -4;
        }
        if (Arrays.equals(then, now.settings)) {
            return -5;
        }
        act();
        int before = now.settings[which];
        now.settings = then;
        return before + 1000;
    }

    private int faultOfText() {
        for (int length = 1; length <= text.length(); length++) {
            Matcher m = PROFILE.matcher(text.substring(0, length));
            if (!m.matches() && !m.hitEnd()) {
                return length - 1;
            }
        }
        return PROFILE.matcher(text).matches() ? -1 : text.length();
    }

    private static int[] stageOf(String part) {
        String[] timed = part.split("/");
        String[] numbers = timed[0].substring(1).split(":");
        return new int[] {"cvr".indexOf(part.charAt(0)), Integer.parseInt(numbers[0]),
            numbers.length > 1 ? Integer.parseInt(numbers[1]) : 0,
            timed.length > 1 ? Integer.parseInt(timed[1]) : 0};
    }

    private static boolean isBad(int[] s) {
        int[][] first = {{1, 2000}, {3000, 4500}, {1, 999}};
        int[][] second = {{3000, 4500}, {0, 2000}, {0, 0}};
        return out(s[1], first[s[0]][0], first[s[0]][1])
                || out(s[2], second[s[0]][0], second[s[0]][1]) || out(s[3], 0, 999);
    }

    int readProfile() {
        int fault = faultOfText();
        if (fault >= 0) {
            return -100 - fault;
        }
        List<int[]> stages = new ArrayList<>();
        for (String part : text.split(";")) {
            stages.add(stageOf(part));
        }
        if (stages.stream().anyMatch(PlainCharger::isBad)) {
            return -2;
        }
        if (now.state == 1) {
            return -4;
        }
        act();
        now.stages = stages;
        return stages.size();
    }

    int start() {
        if (now.state == 1 || now.stages.isEmpty()) {
            return -4;
        }
        act();
        int before = now.state;
        now.state = 1;
        now.stage = 0;
        now.lasted = 0;
        now.pausedBefore = false;
        now.log(0);
        return before;
    }

    int stop() {
        if (now.state == 0) {
            return -5;
        }
        act();
        int before = now.state;
        now.state = 0;
        return before;
    }

    int pass(int ticks) {
        if (out(ticks, 1, 200)) {
            return -2;
        }
        if (now.tick + ticks > 99999) {
            return -3;
        }
        act();
        for (int i = 0; i < ticks; i++) {
            now.tick();
        }
        return now.state;
    }

    int type(char character) {
        if (text.length() == 60) {
            return -3;
        }
        text += character;
        return text.length();
    }

    int clearText() {
        int before = text.length();
        text = "";
        return before;
    }

    int undo() {
        if (history.isEmpty()) {
            return -5;
        }
        now = history.removeLast();
        return history.size();
    }

    int keep() {
        snapshot = now.copy();
        return now.tick;
    }

    int restore() {
        if (snapshot == null) {
            return -5;
        }
        act();
        now = snapshot.copy();
        return now.tick;
    }

    int cell(int cell, int what) {
        if (noCell(cell)) {
            return -1;
        }
        int[] c = now.cells.get(cell);
        int[] told = {c[0], now.base(c), c[1], c[2], c[3], c[4], c[5], c[6], c[2] - c[3]};
        return out(what, 0, 8) ? -2 : told[what];
    }

    int setting(int which) {
        return out(which, 0, 8) ? -1 : now.settings[which] + 1000;
    }

    int stage(int stage, int what) {
        if (out(stage, 0, now.stages.size() - 1)) {
            return -1;
        }
        if (out(what, 0, 4)) {
            return -2;
        }
        int[] s = now.stages.get(stage);
        return what < 4 ? s[what] : s[0] == 2 ? -5 : now.limit(s);
    }

    int voltage(int current) {
        return out(current, 0, 2000) ? -2 : now.voltage(current);
    }

    int current() {
        if (now.state != 1 || now.isPaused()) {
            return 0;
        }
        return Math.max(now.told(), 0);
    }

    int doneIn() {
        return now.state == 2 ? 0 : now.doneWithin(2000);
    }

    int chargeIn(int cell, int ticks) {
        if (noCell(cell)) {
            return -1;
        }
        if (out(ticks, 0, 200)) {
            return -2;
        }
        World w = now.copy();
        for (int i = 0; i < ticks; i++) {
            w.tick();
        }
        return w.cells.get(cell)[0];
    }

    int warmest() {
        if (now.state != 1) {
            return -4;
        }
        int warmest = -5;
        for (int t = now.settings[5]; t <= now.settings[6]; t++) {
            World w = now.copy();
            w.settings[3] = t;
            if (w.doneWithin(500) != -5) {
                warmest = t + 1000;
            }
        }
        return warmest;
    }

    int event(int back, int what) {
        if (back < 0 || out(what, 0, 2)) {
            return -2;
        }
        return back >= Math.min(10, now.events.size()) ? -5 : now.events.get(back)[what];
    }

    int count(int what) {
        boolean charging = now.state == 1;
        int[] told = {now.tick, now.cells.size(), now.stages.size(), now.state,
            charging ? now.stage : -5, charging ? now.lasted : 0, now.paused,
            now.cells.stream().mapToInt(c -> c[0]).min().orElse(0),
            now.cells.stream().mapToInt(c -> c[0]).max().orElse(0), now.isPaused() ? 1 : 0,
            now.done, now.faults, history.size(), text.length()};
        return out(what, 0, 13) ? -2 : told[what];
    }
}
