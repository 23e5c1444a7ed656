/** Promises 7 to 9, 18 and 19: start, stop, pass, voltage, current; and what a tick does. */
public final class ChargingTest {
    private static final int B = ChargeStages.BAD_VALUE;
    private static final int P = ChargeStages.NOT_POSSIBLE;
    private static final int N = ChargeStages.NONE;

    public static void main(String[] args) {
        starts();
        stops();
        passes();
        passesToTheLastTick();
        constantCurrentEnds();
        constantCurrentEndsAheadOfBleeding();
        heldVoltageTellsItsCurrent();
        heldVoltageEnds();
        restsLast();
        timersStopStages();
        chargeIsStoredAndSpilled();
        pauses();
        bleeds();
        tellsVoltages();
        tellsCurrents();
        Check.finish();
    }

    private static void dueState(String name, ChargeStages x, int mode, int stage, int lasted) {
        Check.due(name + ": state", x.count(3), mode);
        Check.due(name + ": stage", x.count(4), stage);
        Check.due(name + ": lasted", x.count(5), lasted);
    }

    private static void starts() {
        ChargeStages x = new ChargeStages();
        Check.due("start() without a stage", x.start(), P);
        Check.due("no act", x.count(12), 0);
        Check.read(x, "r1;r2/1");
        Check.due("start() of an idle one", x.start(), 0);
        Check.due("an act", x.count(12), 2);
        dueState("started", x, 1, 0, 0);
        Check.dueEvent("started", x, 0, 0, 0, 0);
        Check.due("start() of a charging one", x.start(), P);
        x.pass(2);
        dueState("at fault", x, 3, N, 0);
        Check.due("start() at fault", x.start(), 3);
        dueState("started again", x, 1, 0, 0);
        Check.dueEvent("started again", x, 0, 0, 2, 0);
        x.stop();
        Check.read(x, "r1");
        x.start();
        x.pass(1);
        Check.due("start() of a done one", x.start(), 2);
        x.set(3, 80);
        Check.due("start() of a paused one", x.start(), P);
        x.stop();
        Check.due("start() when too hot", x.start(), 0);
    }

    private static void stops() {
        ChargeStages x = new ChargeStages();
        Check.due("stop() of an idle one", x.stop(), N);
        Check.read(x, "r2/1");
        x.start();
        Check.due("stop() of a charging one", x.stop(), 1);
        Check.due("an act", x.count(12), 3);
        dueState("stopped", x, 0, N, 0);
        Check.due("stop() again", x.stop(), N);
        Check.due("no act", x.count(12), 3);
        x.start();
        x.pass(1);
        Check.due("stop() at fault", x.stop(), 3);
        Check.read(x, "r1");
        x.start();
        x.pass(1);
        Check.due("stop() of a done one", x.stop(), 2);
        Check.due("no event", x.event(0, 0), 1);
    }

    private static void passes() {
        ChargeStages x = new ChargeStages();
        Check.due("pass(0)", x.pass(0), B);
        Check.due("pass(201)", x.pass(201), B);
        Check.due("pass(-1)", x.pass(-1), B);
        Check.due("pass(greatest)", x.pass(Integer.MAX_VALUE), B);
        Check.due("no act", x.count(12), 0);
        Check.due("pass(1)", x.pass(1), 0);
        Check.due("an act", x.count(12), 1);
        Check.due("pass(200)", x.pass(200), 0);
        Check.due("the tick", x.count(0), 201);
        Check.read(x, "r1;r200;r3/2");
        x.start();
        Check.due("pass(200) charging", x.pass(200), 1);
        dueState("in the rest", x, 1, 1, 199);
        Check.due("pass(1) to the next", x.pass(1), 1);
        dueState("in the last", x, 1, 2, 0);
        Check.due("pass(2) to the fault", x.pass(2), 3);
        Check.due("pass(1) at fault", x.pass(1), 3);
        Check.due("the tick then", x.count(0), 405);
    }

    private static void passesToTheLastTick() {
        ChargeStages x = new ChargeStages();
        for (int passed = 0; passed < 499; passed++) {
            x.pass(200);
        }
        Check.due("the tick", x.count(0), 99800);
        Check.due("pass(200) to 100000", x.pass(200), ChargeStages.FULL);
        Check.due("nothing has changed", x.count(0), 99800);
        Check.due("a bad value goes ahead", x.pass(201), B);
        Check.due("pass(199) to 99999", x.pass(199), 0);
        Check.due("the last tick", x.count(0), 99999);
        Check.due("pass(1) at the last tick", x.pass(1), ChargeStages.FULL);
        Check.due("chargeIn(0, 200) at the last tick", x.chargeIn(0, 200), 0);
    }

    private static void constantCurrentEnds() {
        // 100 a tick: 90 are stored, which adds 108 to a base voltage; 10 are added at the current.
        ChargeStages x = Check.charging("c100:3118;r5");
        x.pass(1);
        dueState("at the limit", x, 1, 1, 0);
        Check.due("it was charged", x.cell(0, 0), 90);
        ChargeStages y = Check.charging("c100:3119;r5");
        y.pass(1);
        dueState("below the limit", y, 1, 0, 1);
        y.pass(1);
        dueState("above the limit", y, 1, 1, 0);
        ChargeStages z = Check.charging("c100:3119;r5");
        z.setCharge(2, 1);
        z.pass(1);
        dueState("one cell at the limit", z, 1, 1, 0);
        Check.dueEvent("one cell at the limit", z, 0, 0, 0, 1);
        ChargeStages full = Check.charging("c100:3000;r5");
        full.setCharge(0, 1000);
        Check.due("it charges above the limit, too", full.current(), 100);
        full.pass(1);
        Check.due("and ends behind that", full.count(4), 1);
        Check.due("the tick was charged", full.cell(1, 0), 90);
        ChargeStages hot = Check.charging("c100:3118;r5");
        hot.set(4, 10);
        hot.set(3, 24);
        hot.pass(1);
        dueState("a limit that goes up when it is cold", hot, 1, 0, 1);
        hot.set(3, 45);
        Check.due("a limit that goes down", hot.stage(0, 4), 2918);
        hot.pass(1);
        dueState("it is warm", hot, 1, 1, 0);
    }

    private static void constantCurrentEndsAheadOfBleeding() {
        ChargeStages x = Check.charging("c100:3718;r5");
        x.set(8, 50);
        x.set(7, 0);
        x.setCharge(0, 500);
        x.pass(1);
        dueState("the voltage ahead of bleeding", x, 1, 1, 0);
        Check.dueCells("bled behind it", x, 0, 540, 90, 90);
        Check.dueCells("bled behind it", x, 6, 50, 0, 0);
    }

    private static int heldAt(int resistance, int limit, int charge, int least) {
        ChargeStages x = Check.charging("v" + limit + ":" + least);
        x.set(1, resistance);
        x.setCharge(1, charge);
        return x.current();
    }

    private static void heldVoltageTellsItsCurrent() {
        Check.due("100 of room at 100", heldAt(100, 3100, 0, 0), 1009);
        Check.due("none of room at 100", heldAt(100, 3600, 500, 0), 9);
        Check.due("less than none", heldAt(100, 3599, 500, 0), 0);
        Check.due("no resistance", heldAt(0, 3600, 500, 0), 2000);
        Check.due("no resistance, above", heldAt(0, 3599, 500, 0), 0);
        Check.due("more than the greatest", heldAt(100, 4500, 0, 0), 2000);
        Check.due("just the greatest", heldAt(1, 3002, 0, 0), 2000);
        Check.due("below the greatest", heldAt(1, 3001, 0, 0), 1999);
        Check.due("at 200", heldAt(200, 3003, 0, 0), 19);
        Check.due("at 199", heldAt(199, 3003, 0, 0), 20);
        Check.due("at 7", heldAt(7, 3006, 0, 0), 999);
        Check.due("one more than the least", heldAt(100, 3100, 0, 1008), 1009);
        Check.due("the least", heldAt(100, 3100, 0, 1009), 0);
    }

    private static void heldVoltageEnds() {
        ChargeStages x = Check.charging("v3100:1009;c200:4500");
        x.pass(1);
        dueState("at the least current", x, 1, 1, 0);
        Check.due("nothing is charged", x.cell(0, 3), 0);
        Check.dueEvent("at the least current", x, 0, 0, 0, 1);
        Check.due("the next current", x.current(), 200);
        ChargeStages y = Check.charging("v3100:1008");
        y.pass(1);
        dueState("above the least current", y, 1, 0, 1);
        Check.due("it is charged", y.cell(0, 3), 1009);
        y.pass(1);
        Check.due("done", y.count(3), 2);
        Check.due("nothing more is charged", y.cell(0, 3), 1009);
        Check.dueEvent("done", y, 0, 1, 1, 0);
        ChargeStages z = Check.charging("v3000:0;v3000:2000;v4500:0");
        z.setCharge(0, 500);
        z.pass(1);
        dueState("one stage a tick", z, 1, 1, 0);
        z.pass(1);
        dueState("another tick", z, 1, 2, 0);
        ChargeStages warm = Check.charging("v3100:0");
        warm.set(4, 2);
        warm.set(3, 35);
        Check.due("the limit of now", warm.current(), 809);
    }

    private static void restsLast() {
        ChargeStages x = Check.charging("r1;r2;r3");
        x.setCharge(0, 5);
        x.pass(1);
        dueState("behind 1", x, 1, 1, 0);
        x.pass(1);
        dueState("in the second", x, 1, 1, 1);
        x.pass(1);
        dueState("behind 2", x, 1, 2, 0);
        x.pass(2);
        dueState("in the third", x, 1, 2, 2);
        Check.due("the last tick", x.pass(1), 2);
        dueState("done", x, 2, N, 0);
        Check.due("once done", x.count(10), 1);
        Check.dueCells("nothing comes in", x, 3, 0, 0, 0);
        Check.dueCells("nothing goes", x, 0, 5, 0, 0);
    }

    private static void timersStopStages() {
        ChargeStages x = Check.charging("c1:4500/3");
        x.pass(2);
        dueState("ahead of the timer", x, 1, 0, 2);
        Check.due("the timer", x.pass(1), 3);
        dueState("at fault", x, 3, N, 0);
        Check.due("once at fault", x.count(11), 1);
        Check.due("never done", x.count(10), 0);
        Check.dueEvent("at fault", x, 0, 2, 2, 0);
        Check.due("the tick of the fault was charged", x.cell(0, 3), 3);
        x.pass(1);
        Check.due("nothing is charged then", x.cell(0, 3), 3);
        ChargeStages y = Check.charging("r3/3;r3/2;r1");
        y.pass(3);
        dueState("an end goes ahead of a timer", y, 1, 1, 0);
        Check.due("a timer of the second", y.pass(2), 3);
        Check.dueEvent("a timer of the second", y, 0, 2, 4, 1);
        ChargeStages z = Check.charging("v4500:0/1");
        z.set(1, 0);
        Check.due("a timer of a held voltage", z.pass(1), 3);
        ChargeStages held = Check.charging("v3000:9/1;r1");
        held.pass(1);
        dueState("a stage that ends as it begins has no fault", held, 1, 1, 0);
        ChargeStages paused = Check.charging("r3/2");
        paused.pass(1);
        paused.set(3, 46);
        paused.pass(100);
        dueState("a pause is not counted", paused, 1, 0, 1);
        paused.set(3, 45);
        Check.due("the timer behind a pause", paused.pass(1), 3);
    }

    private static void chargeIsStoredAndSpilled() {
        ChargeStages x = Check.charging("c11:4500");
        x.pass(1);
        Check.dueCells("990", x, 0, 9, 9, 9);
        Check.dueCells("its rest", x, 2, 90, 90, 90);
        x.pass(1);
        Check.dueCells("1080", x, 0, 19, 19, 19);
        Check.dueCells("its rest", x, 2, 80, 80, 80);
        x.set(2, 50);
        x.pass(1);
        Check.dueCells("630", x, 0, 25, 25, 25);
        Check.dueCells("its rest", x, 2, 30, 30, 30);
        Check.dueCells("came in", x, 3, 33, 33, 33);
        Check.dueCells("stored", x, 4, 25, 25, 25);
        Check.dueCells("lost", x, 8, 8, 8, 8);
        ChargeStages y = Check.charging("c2000:4500");
        y.set(2, 100);
        y.set(1, 200);
        y.setCharge(0, 600);
        y.pass(1);
        Check.dueCells("full", y, 0, 1000, 1000, 1000);
        Check.dueCells("spilled", y, 5, 1600, 1000, 1000);
        Check.dueCells("stored, with what is spilled", y, 4, 2000, 2000, 2000);
        Check.dueCells("nothing lost", y, 8, 0, 0, 0);
        ChargeStages just = Check.charging("c1000:4500");
        just.set(2, 100);
        just.pass(1);
        Check.dueCells("just full", just, 5, 0, 0, 0);
        Check.dueCells("just full", just, 0, 1000, 1000, 1000);
    }

    private static void pauses() {
        ChargeStages x = Check.charging("c100:4500");
        x.set(3, 45);
        Check.due("at the highest", x.count(9), 0);
        x.set(3, 46);
        Check.due("above the highest", x.count(9), 1);
        x.set(3, 0);
        Check.due("at the lowest", x.count(9), 0);
        x.set(3, -1);
        Check.due("below the lowest", x.count(9), 1);
        Check.due("current() in a pause", x.current(), 0);
        Check.due("charging still", x.pass(3), 1);
        dueState("in a pause", x, 1, 0, 0);
        Check.due("paused ticks", x.count(6), 3);
        Check.due("the tick goes on", x.count(0), 3);
        Check.due("nothing comes in", x.cell(0, 3), 0);
        x.stop();
        Check.due("an idle one is not paused", x.count(9), 0);
        x.pass(1);
        Check.due("no paused tick", x.count(6), 3);
        x.start();
        x.pass(2);
        Check.due("more paused ticks", x.count(6), 5);
        x.set(3, 1);
        x.pass(1);
        Check.due("it goes on", x.cell(0, 3), 100);
    }

    private static void bleeds() {
        ChargeStages x = new ChargeStages();
        x.battery(4);
        x.set(0, 1200);
        x.set(8, 30);
        x.set(7, 20);
        int[] charges = {500, 520, 521, 545};
        for (int cell = 0; cell < 4; cell++) {
            x.setCharge(cell, charges[cell]);
        }
        x.pass(1);
        Check.dueCells("more than the threshold", x, 0, 500, 520, 491, 515);
        Check.dueCells("is bled", x, 6, 0, 0, 30, 30);
        x.pass(1);
        Check.dueCells("another least one", x, 0, 500, 490, 491, 485);
        Check.dueCells("is bled more", x, 6, 0, 30, 30, 60);
        x.set(7, 0);
        x.set(8, 1);
        x.pass(1);
        Check.dueCells("no threshold", x, 0, 499, 489, 490, 485);
        bleedsAllThatThereIs();
        bleedsInAllStates();
    }

    private static void bleedsAllThatThereIs() {
        ChargeStages x = new ChargeStages();
        x.set(8, 50);
        x.set(7, 10);
        x.setCharge(0, 10);
        x.setCharge(1, 9);
        x.pass(1);
        Check.dueCells("12 and 10 above", x, 0, 0, 9, 0);
        Check.dueCells("all that it has", x, 6, 10, 0, 0);
        ChargeStages one = new ChargeStages();
        one.battery(1);
        one.setCharge(0, 900);
        one.set(8, 50);
        one.set(7, 0);
        one.pass(5);
        Check.due("one cell alone is the least one", one.cell(0, 0), 900);
        ChargeStages rest = Check.charging("c1:4500");
        rest.setCharge(0, 500);
        rest.set(8, 10);
        rest.pass(1);
        Check.due("a rest is not bled", rest.cell(0, 2), 90);
    }

    private static ChargeStages uneven(String text) {
        ChargeStages x = Check.charging(text);
        x.set(8, 5);
        x.setCharge(2, 100);
        return x;
    }

    private static void bleedsInAllStates() {
        ChargeStages charging = uneven("r9");
        charging.pass(2);
        Check.due("bled while charging", charging.cell(2, 6), 10);
        charging.set(3, 60);
        charging.pass(2);
        Check.due("bled in a pause", charging.cell(2, 6), 20);
        charging.stop();
        charging.pass(1);
        Check.due("bled when idle", charging.cell(2, 6), 25);
        ChargeStages done = uneven("r1");
        done.pass(2);
        Check.due("bled when done", done.cell(2, 6), 10);
        ChargeStages fault = uneven("r2/1");
        fault.pass(3);
        Check.due("bled at fault", fault.cell(2, 6), 15);
        Check.due("stored stays", fault.cell(2, 4), 0);
        Check.due("used stays", fault.cell(2, 7), 0);
    }

    private static void tellsVoltages() {
        ChargeStages x = new ChargeStages();
        Check.due("voltage(-1)", x.voltage(-1), B);
        Check.due("voltage(2001)", x.voltage(2001), B);
        Check.due("voltage(0)", x.voltage(0), 3000);
        Check.due("voltage(2000)", x.voltage(2000), 3200);
        Check.due("voltage(9)", x.voltage(9), 3000);
        Check.due("voltage(10)", x.voltage(10), 3001);
        x.setCharge(1, 500);
        Check.due("of the greatest one", x.voltage(19), 3601);
        x.set(1, 0);
        Check.due("no resistance", x.voltage(2000), 3600);
        x.set(0, 701);
        x.set(1, 199);
        // 1200 * 500 / 701 is 855, and 199 * 1999 / 1000 is 397: each is rounded by itself.
        Check.due("rounded down", x.voltage(1999), 4252);
    }

    private static void tellsCurrents() {
        ChargeStages x = new ChargeStages();
        Check.due("of a new one", x.current(), 0);
        Check.read(x, "c77:3000;r1;v3300:9/1");
        Check.due("of an idle one", x.current(), 0);
        x.start();
        Check.due("constant", x.current(), 77);
        x.set(3, 60);
        Check.due("paused", x.current(), 0);
        x.set(3, 25);
        x.pass(1);
        Check.due("of a rest", x.current(), 0);
        x.pass(1);
        Check.due("held", x.current(), 2000);
        x.pass(1);
        Check.due("at fault", x.count(3), 3);
        Check.due("of one at fault", x.current(), 0);
        ChargeStages done = Check.charging("c100:3000");
        done.pass(1);
        Check.due("of a done one", done.current(), 0);
    }
}
