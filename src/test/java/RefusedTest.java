import java.util.function.Supplier;

/**
 * ERRORS: "A call that returns an error or NONE changes nothing", for each call and each reason, and
 * "the order of the @return line is the order of the checks".
 */
public final class RefusedTest {
    private static final int U = ChargeStages.UNKNOWN;
    private static final int B = ChargeStages.BAD_VALUE;
    private static final int F = ChargeStages.FULL;
    private static final int P = ChargeStages.NOT_POSSIBLE;
    private static final int N = ChargeStages.NONE;
    private static final int MIN = Integer.MIN_VALUE;
    private static final int MAX = Integer.MAX_VALUE;
    private static final int[] LEAST = {100, 0, 50, -30, 0, -30, -30, 0, 0};
    private static final int[] MOST = {5000, 200, 100, 80, 10, 80, 80, 500, 50};

    public static void main(String[] args) {
        batteryIsRefused();
        setChargeIsRefused();
        useIsRefused();
        setIsRefused();
        readProfileIsRefused();
        startIsRefused();
        stopIsRefused();
        passIsRefused();
        passIsRefusedAtTheLastTick();
        typeIsRefused();
        undoAndRestoreAreRefused();
        tellingCellsIsRefused();
        tellingStagesIsRefused();
        tellingAheadIsRefused();
        tellingTheLogIsRefused();
        whatIsToldChangesNothing();
        Check.finish();
    }

    /** Uneven cells that are bled, with a rest, a full history, a snapshot and a text. */
    private static ChargeStages charging() {
        ChargeStages x = new ChargeStages();
        Check.read(x, "c55:3400;r30/20;v4000:10");
        x.set(8, 3);
        x.set(7, 0);
        x.setCharge(1, 50);
        x.start();
        x.pass(1);
        x.keep();
        x.pass(2);
        x.setCharge(2, 700);
        Check.typeText(x, "r7;c9:3009");
        return x;
    }

    private static ChargeStages paused() {
        ChargeStages x = charging();
        x.set(3, 46);
        x.pass(1);
        return x;
    }

    private static ChargeStages idle() {
        ChargeStages x = charging();
        x.stop();
        return x;
    }

    private static ChargeStages done() {
        ChargeStages x = idle();
        x.readProfile();
        x.start();
        x.pass(8);
        return x;
    }

    private static ChargeStages atFault() {
        ChargeStages x = charging();
        x.pass(30);
        return x;
    }

    private static ChargeStages withText(ChargeStages x, String text) {
        Check.typeText(x, text);
        return x;
    }

    private static void batteryIsRefused() {
        Check.due("the state of charging()", charging().count(3), 1);
        Check.due("the pause of paused()", paused().count(9), 1);
        Check.due("the state of idle()", idle().count(3), 0);
        Check.due("the state of done()", done().count(3), 2);
        Check.due("the state of atFault()", atFault().count(3), 3);
        for (int cells : new int[] {0, 7, -1, MIN, MAX}) {
            Unchanged.by("battery " + cells, RefusedTest::idle, x -> x.battery(cells), B);
        }
        Unchanged.by("battery 0 while charging", RefusedTest::charging, x -> x.battery(0), B);
    }

    private static void setChargeIsRefused() {
        for (int cell : new int[] {-1, 3, MIN, MAX}) {
            Unchanged.by("setCharge " + cell, RefusedTest::idle, x -> x.setCharge(cell, 0), U);
            Unchanged.by("setCharge " + cell + ", the cell ahead of the charge", RefusedTest::idle,
                    x -> x.setCharge(cell, -1), U);
        }
        for (int charge : new int[] {-1, 1001, MIN, MAX}) {
            Unchanged.by("setCharge to " + charge, RefusedTest::idle, x -> x.setCharge(0, charge), B);
        }
        Unchanged.by("setCharge as it is", RefusedTest::charging, x -> x.setCharge(2, 700), N);
    }

    private static void useIsRefused() {
        for (int amount : new int[] {0, -1, 5001, MIN, MAX}) {
            Unchanged.by("use " + amount, RefusedTest::idle, x -> x.use(amount), B);
            Unchanged.by("use " + amount + ", the amount ahead of charging", RefusedTest::charging,
                    x -> x.use(amount), B);
        }
        int least = idle().count(7);
        Check.holds("there is some charge in each cell", least > 0);
        Unchanged.by("use of more than the least", RefusedTest::idle, x -> x.use(least + 1), P);
        Unchanged.by("use of more than any has", RefusedTest::idle, x -> x.use(5000), P);
        Unchanged.by("use while charging", RefusedTest::charging, x -> x.use(1), P);
        Unchanged.by("use in a pause", RefusedTest::paused, x -> x.use(1), P);
        Unchanged.by("use of too much when done", RefusedTest::done, x -> x.use(5000), P);
        Unchanged.by("use of too much at fault", RefusedTest::atFault, x -> x.use(5000), P);
    }

    private static void setIsRefused() {
        for (int which : new int[] {-1, 9, MIN, MAX}) {
            Unchanged.by("set " + which, RefusedTest::idle, x -> x.set(which, 50), U);
            Unchanged.by("set " + which + ", the setting ahead of the value", RefusedTest::idle,
                    x -> x.set(which, MAX), U);
        }
        for (int which = 0; which < LEAST.length; which++) {
            int it = which;
            int now = idle().setting(it) - 1000;
            for (int value : new int[] {LEAST[it] - 1, MOST[it] + 1, MIN, MAX}) {
                Unchanged.by("set " + it + " to " + value, RefusedTest::idle, x -> x.set(it, value), B);
            }
            Unchanged.by("set " + it + " as it is", RefusedTest::idle, x -> x.set(it, now), N);
        }
        Unchanged.by("a capacity below a charge", RefusedTest::idle, x -> x.set(0, 699), P);
        Unchanged.by("a capacity below its range and a charge", RefusedTest::idle, x -> x.set(0, 99),
                B);
        Unchanged.by("the lowest above the highest", RefusedTest::idle, x -> x.set(5, 46), P);
        Unchanged.by("the lowest above its range and the highest", RefusedTest::idle,
                x -> x.set(5, 81), B);
        Unchanged.by("the highest below the lowest", RefusedTest::idle, x -> x.set(6, -1), P);
        Unchanged.by("the highest below its range and the lowest", RefusedTest::idle,
                x -> x.set(6, -31), B);
    }

    private static void readProfileIsRefused() {
        String[] texts = {"", "r", "r0;", "r5;;", "r0", "c1:2999", "r1/1000", "r1;r2;r3;r4;r5;"};
        int[] answers = {-100, -101, -103, -103, B, B, B, -114};
        for (int i = 0; i < texts.length; i++) {
            String text = texts[i];
            Supplier<ChargeStages> idle = () -> withText(idle(), text);
            Supplier<ChargeStages> charging = () -> withText(charging(), text);
            Unchanged.by("reading " + text, idle, ChargeStages::readProfile, answers[i]);
            Unchanged.by("reading " + text + " while charging, that it charges comes last", charging,
                    ChargeStages::readProfile, answers[i]);
        }
        Unchanged.by("reading while charging", RefusedTest::charging, ChargeStages::readProfile, P);
        Unchanged.by("reading in a pause", RefusedTest::paused, ChargeStages::readProfile, P);
    }

    private static void startIsRefused() {
        Unchanged.by("start without a stage", ChargeStages::new, ChargeStages::start, P);
        Unchanged.by("start with a text that is not read", () -> withText(new ChargeStages(), "r1"),
                ChargeStages::start, P);
        Unchanged.by("start while charging", RefusedTest::charging, ChargeStages::start, P);
        Unchanged.by("start in a pause", RefusedTest::paused, ChargeStages::start, P);
    }

    private static void stopIsRefused() {
        Unchanged.by("stop of a new one", ChargeStages::new, ChargeStages::stop, N);
        Unchanged.by("stop of a stopped one", RefusedTest::idle, ChargeStages::stop, N);
    }

    private static void passIsRefused() {
        for (int ticks : new int[] {0, -1, 201, MIN, MAX}) {
            Unchanged.by("pass " + ticks, RefusedTest::charging, x -> x.pass(ticks), B);
            Unchanged.by("pass " + ticks + " in a pause", RefusedTest::paused, x -> x.pass(ticks), B);
        }
    }

    /** It takes 500 calls to get there, so that a few looks are left. */
    private static void passIsRefusedAtTheLastTick() {
        ChargeStages x = new ChargeStages();
        for (int passed = 0; passed < 499; passed++) {
            x.pass(200);
        }
        Check.due("pass 200 to 100000", x.pass(200), F);
        Check.due("pass 201, the range ahead of the room", x.pass(201), B);
        Check.due("the tick stays", x.count(0), 99800);
        Check.due("pass 199 to 99999", x.pass(199), 0);
        Check.due("pass 1 to 100000", x.pass(1), F);
        Check.due("pass 0 there", x.pass(0), B);
        Check.due("the last tick stays", x.count(0), 99999);
        Check.due("what was refused is not undone", x.undo(), 3);
        Check.due("but what was passed", x.count(0), 99800);
    }

    private static void typeIsRefused() {
        String text = "c2000:4500/999;c2000:4500/999;c2000:4500/999;c2000:4500/1;r1";
        Supplier<ChargeStages> full = () -> withText(idle(), text);
        Unchanged.by("type behind 60", full, x -> x.type('2'), F);
        Check.due("the text of 60 is read", full.get().readProfile(), 5);
    }

    private static void undoAndRestoreAreRefused() {
        Unchanged.by("undo of a new one", ChargeStages::new, ChargeStages::undo, N);
        Unchanged.by("restore of a new one", ChargeStages::new, ChargeStages::restore, N);
        Supplier<ChargeStages> undone = () -> {
            ChargeStages x = idle();
            for (int i = 0; i < 4; i++) {
                x.undo();
            }
            return x;
        };
        Unchanged.by("undo of no more", undone, ChargeStages::undo, N);
    }

    private static void tellingCellsIsRefused() {
        for (int cell : new int[] {-1, 3, 6, MIN, MAX}) {
            Unchanged.by("cell " + cell, RefusedTest::charging, x -> x.cell(cell, 0), U);
            Unchanged.by("cell " + cell + ", the cell ahead of what", RefusedTest::charging,
                    x -> x.cell(cell, 9), U);
        }
        for (int what : new int[] {-1, 9, MIN, MAX}) {
            Unchanged.by("cell 0 " + what, RefusedTest::charging, x -> x.cell(0, what), B);
        }
        for (int which : new int[] {-1, 9, MIN, MAX}) {
            Unchanged.by("setting " + which, RefusedTest::charging, x -> x.setting(which), U);
        }
        for (int current : new int[] {-1, 2001, MIN, MAX}) {
            Unchanged.by("voltage " + current, RefusedTest::charging, x -> x.voltage(current), B);
        }
    }

    private static void tellingStagesIsRefused() {
        for (int stage : new int[] {-1, 3, 5, MIN, MAX}) {
            Unchanged.by("stage " + stage, RefusedTest::charging, x -> x.stage(stage, 0), U);
            Unchanged.by("stage " + stage + ", the stage ahead of what", RefusedTest::charging,
                    x -> x.stage(stage, 5), U);
        }
        for (int what : new int[] {-1, 5, MIN, MAX}) {
            Unchanged.by("stage 0 " + what, RefusedTest::charging, x -> x.stage(0, what), B);
            Unchanged.by("a rest " + what, RefusedTest::charging, x -> x.stage(1, what), B);
        }
        Unchanged.by("the limit of a rest", RefusedTest::charging, x -> x.stage(1, 4), N);
    }

    private static void tellingAheadIsRefused() {
        for (int cell : new int[] {-1, 3, 6, MIN, MAX}) {
            Unchanged.by("chargeIn " + cell, RefusedTest::charging, x -> x.chargeIn(cell, 0), U);
            Unchanged.by("chargeIn " + cell + ", the cell ahead of the ticks", RefusedTest::charging,
                    x -> x.chargeIn(cell, 201), U);
        }
        for (int ticks : new int[] {-1, 201, MIN, MAX}) {
            Unchanged.by("chargeIn 0 " + ticks, RefusedTest::charging, x -> x.chargeIn(0, ticks), B);
        }
        Unchanged.by("doneIn of an idle one", RefusedTest::idle, ChargeStages::doneIn, N);
        Unchanged.by("doneIn at fault", RefusedTest::atFault, ChargeStages::doneIn, N);
        Unchanged.by("doneIn ahead of a fault", RefusedTest::charging, ChargeStages::doneIn, N);
        Unchanged.by("doneIn in a pause", RefusedTest::paused, ChargeStages::doneIn, N);
        Unchanged.by("warmest of an idle one", RefusedTest::idle, ChargeStages::warmest, P);
        Unchanged.by("warmest when done", RefusedTest::done, ChargeStages::warmest, P);
        Unchanged.by("warmest at fault", RefusedTest::atFault, ChargeStages::warmest, P);
        Unchanged.by("warmest ahead of a fault", RefusedTest::charging, ChargeStages::warmest, N);
        Unchanged.by("warmest ahead of a fault in a pause", RefusedTest::paused,
                ChargeStages::warmest, N);
    }

    private static void tellingTheLogIsRefused() {
        for (int back : new int[] {-1, MIN}) {
            Unchanged.by("event " + back, RefusedTest::charging, x -> x.event(back, 0), B);
        }
        for (int what : new int[] {-1, 3, MIN, MAX}) {
            Unchanged.by("event 0 " + what, RefusedTest::charging, x -> x.event(0, what), B);
            Unchanged.by("event 99 " + what + ", what ahead of that there is none",
                    RefusedTest::charging, x -> x.event(99, what), B);
        }
        for (int back : new int[] {1, 9, 10, MAX}) {
            Unchanged.by("event " + back, RefusedTest::charging, x -> x.event(back, 0), N);
        }
        for (int what : new int[] {-1, 14, MIN, MAX}) {
            Unchanged.by("count " + what, RefusedTest::charging, x -> x.count(what), B);
        }
        Unchanged.by("the stage of an idle one", RefusedTest::idle, x -> x.count(4), N);
    }

    private static void whatIsToldChangesNothing() {
        Unchanged.by("doneIn when done", RefusedTest::done, ChargeStages::doneIn, 0);
        Unchanged.by("chargeIn 2 0", RefusedTest::charging, x -> x.chargeIn(2, 0), 700);
        Unchanged.by("chargeIn 1 200 in a pause", RefusedTest::paused, x -> x.chargeIn(1, 200),
                paused().chargeIn(1, 200));
        Unchanged.by("current", RefusedTest::charging, ChargeStages::current, 55);
        Unchanged.by("current in a pause", RefusedTest::paused, ChargeStages::current, 0);
        Unchanged.by("voltage 0", RefusedTest::charging, x -> x.voltage(0), 3840);
    }
}
