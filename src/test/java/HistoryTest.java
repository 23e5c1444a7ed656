/** Promises 12 to 14: undo, keep, restore. */
public final class HistoryTest {
    private static final int N = ChargeStages.NONE;

    public static void main(String[] args) {
        undoes();
        keepsFourStates();
        undoesEverythingOfAState();
        leavesTextAndSnapshot();
        keepsASnapshot();
        restores();
        undoesTheFlagOfAPause();
        undoesTheNumbersOfCells();
        undoesTheLog();
        Check.finish();
    }

    private static void undoes() {
        ChargeStages x = new ChargeStages();
        Check.due("undo() of nothing", x.undo(), N);
        x.setCharge(0, 1);
        x.setCharge(0, 2);
        Check.due("states", x.count(12), 2);
        Check.due("undo()", x.undo(), 1);
        Check.due("the charge then", x.cell(0, 0), 1);
        Check.due("undo() to the first", x.undo(), 0);
        Check.due("the charge at first", x.cell(0, 0), 0);
        Check.due("undo() of no more", x.undo(), N);
        Check.due("an error is not recorded", x.setCharge(9, 1), ChargeStages.UNKNOWN);
        Check.due("nor NONE", x.setCharge(0, 0), N);
        Check.due("states behind them", x.count(12), 0);
    }

    private static void keepsFourStates() {
        ChargeStages x = new ChargeStages();
        for (int charge = 1; charge <= 7; charge++) {
            x.setCharge(0, charge);
            Check.due("states behind " + charge, x.count(12), Math.min(charge, 4));
        }
        for (int left = 3; left >= 0; left--) {
            Check.due("undo() to " + left, x.undo(), left);
            Check.due("the charge", x.cell(0, 0), left + 3);
        }
        Check.due("the oldest ones are dropped", x.undo(), N);
        x.setCharge(1, 9);
        x.setCharge(1, 8);
        x.undo();
        Check.due("a later act", x.cell(1, 0), 9);
        Check.due("the other cell", x.cell(0, 0), 3);
    }

    private static void undoesEverythingOfAState() {
        for (int rounds = 0; rounds < 12; rounds++) {
            int[] before = StateOf.row(behindRounds(rounds));
            ChargeStages passed = behindRounds(rounds);
            passed.pass(1 + rounds % 3);
            passed.undo();
            StateOf.same("pass undone", passed, before);
            ChargeStages changed = behindRounds(rounds);
            changed.battery(1 + rounds % 6);
            changed.undo();
            StateOf.same("battery undone", changed, before);
            ChargeStages read = behindRounds(rounds);
            boolean isIdle = read.stop() == N;
            Check.due("read", Check.read(read, "r5;c9:3001/9"), 2);
            read.undo();
            if (!isIdle) {
                read.undo();
            }
            StateOf.same("stop and readProfile undone", read, before);
        }
        undoesOtherActs();
    }

    /** A charger some rounds later, always the same one for so many rounds. */
    private static ChargeStages behindRounds(int rounds) {
        ChargeStages x = Check.charging("c50:3200;v3300:400/9;r1;r2/1");
        x.set(8, 5);
        x.set(7, 0);
        x.setCharge(1, 200);
        for (int round = 0; round < rounds; round++) {
            x.set(round % 9, 100);
            x.pass(3);
        }
        return x;
    }

    private static void undoesOtherActs() {
        ChargeStages idle = Check.charging("r9");
        idle.stop();
        int[] stopped = StateOf.row(idle);
        idle.start();
        idle.undo();
        StateOf.same("start undone", idle, stopped);
        ChargeStages x = new ChargeStages();
        x.battery(1);
        x.setCharge(0, 50);
        int[] charged = StateOf.row(x);
        x.use(20);
        x.undo();
        StateOf.same("use undone", x, charged);
        x.set(1, 7);
        x.undo();
        StateOf.same("set undone", x, charged);
    }

    private static void leavesTextAndSnapshot() {
        ChargeStages x = new ChargeStages();
        x.setCharge(0, 5);
        x.keep();
        Check.typeText(x, "r1;r2");
        x.undo();
        Check.due("the text stays", x.count(13), 5);
        Check.due("it can be read", x.readProfile(), 2);
        Check.due("the snapshot stays", x.restore(), 0);
        Check.due("what it restores", x.cell(0, 0), 5);
        Check.due("the text stays again", x.count(13), 5);
        Check.due("its profile", x.count(2), 0);
    }

    private static void keepsASnapshot() {
        ChargeStages x = new ChargeStages();
        Check.due("keep()", x.keep(), 0);
        Check.due("no act", x.count(12), 0);
        x.pass(7);
        Check.due("keep() later", x.keep(), 7);
        x.pass(5);
        Check.due("in place of the one that was", x.restore(), 7);
        Check.due("the tick", x.count(0), 7);
    }

    private static void restores() {
        ChargeStages x = Check.charging("c50:3200/9;r4");
        Check.due("restore() of nothing", x.restore(), N);
        Check.due("no act", x.count(12), 2);
        int[] kept = StateOf.row(keptAndLater(false));
        int[] later = StateOf.row(keptAndLater(true));
        ChargeStages y = keptAndLater(true);
        Check.due("restore()", y.restore(), 3);
        StateOf.same("restored", y, kept);
        Check.due("an act", y.count(12), 4);
        Check.due("undo() of restore()", y.undo(), 3);
        StateOf.same("restore undone", y, later);
        ChargeStages z = keptAndLater(true);
        z.restore();
        z.undo();
        Check.due("the snapshot stays", z.restore(), 3);
        Check.due("restore() again", z.restore(), 3);
        StateOf.same("restored again", z, kept);
        z.setCharge(0, 777);
        z.restore();
        StateOf.same("changes do not reach the snapshot", z, kept);
        z.keep();
        Check.due("an act at each restore()", z.count(12), 4);
    }

    private static ChargeStages keptAndLater(boolean isLater) {
        ChargeStages x = Check.charging("c50:3200/9;r4");
        x.pass(3);
        x.keep();
        if (isLater) {
            x.set(3, 60);
            x.pass(5);
            x.battery(2);
        }
        return x;
    }

    private static void undoesTheFlagOfAPause() {
        ChargeStages x = Check.charging("r9");
        x.set(3, 60);
        x.pass(1);
        Check.dueEvent("a pause", x, 0, 3, 0, 0);
        x.undo();
        Check.due("its event is undone", x.event(1, 0), N);
        x.pass(1);
        Check.dueEvent("a pause again", x, 0, 3, 0, 0);
        x.keep();
        x.set(3, 25);
        x.pass(1);
        x.restore();
        x.pass(1);
        Check.due("the pause goes on behind a restore", x.event(2, 0), N);
        Check.dueEvent("the pause goes on behind a restore", x, 0, 3, 0, 0);
    }

    private static void undoesTheNumbersOfCells() {
        ChargeStages x = Check.charging("c2000:4500");
        x.set(1, 200);
        x.set(2, 77);
        x.setCharge(0, 500);
        int[] before = StateOf.row(x);
        x.setCharge(1, 300);
        x.keep();
        x.set(2, 51);
        x.pass(1);
        Check.due("spilled", x.cell(0, 5), 520);
        x.undo();
        x.undo();
        x.undo();
        StateOf.same("what was spilled is undone", x, before);
        Check.due("restore()", x.restore(), 0);
        Check.due("the snapshot has another charge", x.cell(1, 0), 300);
        ChargeStages y = Check.charging("c1:4500");
        y.pass(1);
        Check.due("a rest", y.cell(0, 2), 90);
        y.undo();
        Check.due("the rest is undone", y.cell(0, 2), 0);
        ChargeStages z = Check.charging("r1");
        z.pass(1);
        Check.due("done once", z.count(10), 1);
        z.undo();
        Check.due("being done is undone", z.count(10), 0);
        z.pass(1);
        Check.due("done once again", z.count(10), 1);
    }

    private static void undoesTheLog() {
        ChargeStages x = Check.charging("r2;r3");
        x.set(3, 60);
        x.pass(1);
        x.keep();
        Check.dueEvent("a pause", x, 0, 3, 0, 0);
        x.undo();
        x.undo();
        x.pass(3);
        Check.dueEvent("another event at its place", x, 0, 0, 1, 1);
        x.restore();
        Check.dueEvent("the pause of the snapshot", x, 0, 3, 0, 0);
        x.undo();
        Check.dueEvent("the other event again", x, 0, 0, 1, 1);
    }
}
