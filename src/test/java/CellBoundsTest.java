/**
 * The boundaries that CELLS and the promises 1 to 5, 15, 16 and 18 name, a test for each sentence,
 * which stands above it.
 */
public final class CellBoundsTest {
    private static final int U = ChargeStages.UNKNOWN;
    private static final int B = ChargeStages.BAD_VALUE;
    private static final int P = ChargeStages.NOT_POSSIBLE;
    private static final int N = ChargeStages.NONE;
    private static final int MIN = Integer.MIN_VALUE;
    private static final int MAX = Integer.MAX_VALUE;
    private static final int[] LEAST = {100, 0, 50, -30, 0, -30, -30, 0, 0};
    private static final int[] MOST = {5000, 200, 100, 80, 10, 80, 80, 500, 50};
    private static final int[] FIRST = {1000, 100, 90, 25, 3, 0, 45, 20, 0};

    public static void main(String[] args) {
        oneToSixCells();
        cellsAreNumberedFromZero();
        threeCellsAtFirst();
        chargeFromZeroToTheCapacity();
        settingsStayInTheirRanges();
        settingsAtFirst();
        baseVoltageOfEmptyAndFull();
        baseVoltageIsRoundedDown();
        voltageAtACurrentIsRoundedDown();
        voltageAtNoResistanceAndAtTheMost();
        baseVoltageOfTheBatteryIsTheGreatest();
        batteryTakesEmptyCells();
        batteryMakesIdleOfEachState();
        batteryLeavesAllElse();
        setChargeCountsNothing();
        setChargeIsNoneWithoutARestAlone();
        useOfOneToFiveThousand();
        useOfTheLeastCharge();
        useLooksAtEachCell();
        useWhenNotCharging();
        setTellsThePreviousValuePlus1000();
        capacityNotBelowAnyCharge();
        lowestNotAboveTheHighest();
        cellTellsEachNumber();
        lostCountsTheRest();
        settingTellsPlus1000();
        voltageOfZeroTo2000();
        Check.finish();
    }

    private static ChargeStages cellsOf(int... charges) {
        ChargeStages x = new ChargeStages();
        x.battery(charges.length);
        for (int cell = 0; cell < charges.length; cell++) {
            x.setCharge(cell, charges[cell]);
        }
        return x;
    }

    // "There are 1 to 6 cells"
    private static void oneToSixCells() {
        ChargeStages x = new ChargeStages();
        Check.due("no cells", x.battery(0), B);
        Check.due("a cell less than none", x.battery(-1), B);
        for (int cells = 1; cells <= 6; cells++) {
            x.battery(cells);
            Check.due("cells of " + cells, x.count(1), cells);
            Check.due("the last cell of " + cells, x.cell(cells - 1, 0), 0);
            Check.due("the next cell of " + cells, x.cell(cells, 0), U);
            Check.due("a charge of the last of " + cells, x.setCharge(cells - 1, 1), 0);
            Check.due("a charge of the next of " + cells, x.setCharge(cells, 1), U);
            Check.due("the last one later of " + cells, x.chargeIn(cells - 1, 1), 1);
            Check.due("the next one later of " + cells, x.chargeIn(cells, 1), U);
        }
        Check.due("seven cells", x.battery(7), B);
        Check.due("six cells stay", x.count(1), 6);
    }

    // "numbered from 0"
    private static void cellsAreNumberedFromZero() {
        ChargeStages x = cellsOf(7, 8);
        Check.due("cell 0", x.cell(0, 0), 7);
        Check.due("cell 1", x.cell(1, 0), 8);
        for (int cell : new int[] {-1, 2, 6, MIN, MAX}) {
            Check.due("cell " + cell, x.cell(cell, 0), U);
            Check.due("setCharge of " + cell, x.setCharge(cell, 1), U);
            Check.due("chargeIn of " + cell, x.chargeIn(cell, 1), U);
        }
    }

    // "(at first 3)"; promise 1: "three empty cells and no profile"
    private static void threeCellsAtFirst() {
        ChargeStages x = new ChargeStages();
        Check.due("cells", x.count(1), 3);
        Check.due("stages", x.count(2), 0);
        Check.due("state", x.count(3), 0);
        Check.dueCells("empty", x, 0, 0, 0, 0);
        Check.due("a fourth", x.cell(3, 0), U);
    }

    // "each with a charge from 0 to the capacity"
    private static void chargeFromZeroToTheCapacity() {
        for (int capacity : new int[] {100, 999, 1000, 5000}) {
            ChargeStages x = cellsOf(1);
            x.set(0, capacity);
            Check.due("below 0 of " + capacity, x.setCharge(0, -1), B);
            Check.due("above " + capacity, x.setCharge(0, capacity + 1), B);
            Check.due("full " + capacity, x.setCharge(0, capacity), 1);
            Check.due("empty of " + capacity, x.setCharge(0, 0), capacity);
            Check.due("one below " + capacity, x.setCharge(0, capacity - 1), 0);
            Check.due("it is told", x.cell(0, 0), capacity - 1);
        }
    }

    // "There are these settings (in parentheses: range; first value)": the range
    private static void settingsStayInTheirRanges() {
        for (int which = 0; which < LEAST.length; which++) {
            ChargeStages x = new ChargeStages();
            x.set(5, -30);
            x.set(6, 80);
            String name = "setting " + which + ": ";
            Check.due(name + "too small", x.set(which, LEAST[which] - 1), B);
            Check.due(name + "too large", x.set(which, MOST[which] + 1), B);
            x.set(which, LEAST[which] + 1);
            Check.due(name + "the least", x.set(which, LEAST[which]), LEAST[which] + 1001);
            Check.due(name + "too small at the least", x.set(which, LEAST[which] - 1), B);
            Check.due(name + "the greatest", x.set(which, MOST[which]), LEAST[which] + 1000);
            Check.due(name + "too large at the greatest", x.set(which, MOST[which] + 1), B);
            Check.due(name + "stays", x.setting(which), MOST[which] + 1000);
        }
    }

    // "(in parentheses: range; first value)": the first value
    private static void settingsAtFirst() {
        ChargeStages x = new ChargeStages();
        for (int which = 0; which < FIRST.length; which++) {
            Check.due("setting " + which, x.setting(which), FIRST[which] + 1000);
            Check.due("set " + which + " as it is", x.set(which, FIRST[which]), N);
        }
    }

    // "The base voltage of a cell is 3000 + 1200 * charge / capacity."
    private static void baseVoltageOfEmptyAndFull() {
        int[] capacities = {100, 101, 1200, 4999, 5000};
        int[] oneBelow = {4188, 4188, 4199, 4199, 4199};
        for (int i = 0; i < capacities.length; i++) {
            ChargeStages x = cellsOf(0);
            x.set(0, capacities[i]);
            Check.due("empty of " + capacities[i], x.cell(0, 1), 3000);
            x.setCharge(0, capacities[i]);
            Check.due("full of " + capacities[i], x.cell(0, 1), 4200);
            x.setCharge(0, capacities[i] - 1);
            Check.due("one below of " + capacities[i], x.cell(0, 1), oneBelow[i]);
        }
    }

    // "(Divisions are rounded down.)", of the base voltage
    private static void baseVoltageIsRoundedDown() {
        ChargeStages x = cellsOf(4, 5, 8, 9);
        x.set(0, 5000);
        int[] bases = {3000, 3001, 3001, 3002};
        Check.dueCells("0.96, 1.2, 1.92 and 2.16", x, 1, bases);
        x.set(0, 1201);
        Check.dueCells("3.99, 4.99, 7.99 and 8.99", x, 1, 3003, 3004, 3007, 3008);
    }

    // "Its voltage at a current is that + current * resistance / 1000. (Divisions are rounded down.)"
    private static void voltageAtACurrentIsRoundedDown() {
        ChargeStages x = cellsOf(4);
        x.set(0, 5000);
        Check.due("0.96 and 0.9 are 0 and 0", x.voltage(9), 3000);
        Check.due("0.96 and 1", x.voltage(10), 3001);
        Check.due("0.96 and 1.9", x.voltage(19), 3001);
        x.set(1, 1);
        Check.due("0.999", x.voltage(999), 3000);
        Check.due("1", x.voltage(1000), 3001);
        Check.due("1.999", x.voltage(1999), 3001);
        x.set(1, 199);
        Check.due("0.995", x.voltage(5), 3000);
        Check.due("1.194", x.voltage(6), 3001);
        Check.due("397.801", x.voltage(1999), 3397);
    }

    // "1 the resistance (0 to 200; 100)"
    private static void voltageAtNoResistanceAndAtTheMost() {
        ChargeStages x = cellsOf(1000);
        x.set(1, 0);
        Check.due("no resistance, no current", x.voltage(0), 4200);
        Check.due("no resistance", x.voltage(2000), 4200);
        x.set(1, 200);
        Check.due("the greatest resistance, no current", x.voltage(0), 4200);
        Check.due("the greatest resistance", x.voltage(2000), 4600);
        Check.due("below it", x.voltage(1999), 4599);
    }

    // "The base voltage of the battery is the greatest one of its cells."
    private static void baseVoltageOfTheBatteryIsTheGreatest() {
        for (int greatest = 0; greatest < 6; greatest++) {
            ChargeStages x = cellsOf(100, 100, 100, 100, 100, 100);
            x.setCharge(greatest, 200);
            Check.due("the greatest at " + greatest, x.voltage(0), 3240);
            x.setCharge(greatest, 0);
            Check.due("the least at " + greatest, x.voltage(0), 3120);
        }
    }

    // Promise 2: "Takes another battery, whose cells are empty, with counts of 0"
    private static void batteryTakesEmptyCells() {
        for (int cells = 1; cells <= 6; cells++) {
            ChargeStages x = new ChargeStages();
            Check.read(x, "c101:3000;r1");
            x.battery(6);
            x.set(8, 50);
            x.set(2, 99);
            x.setCharge(5, 999);
            x.start();
            x.pass(1);
            x.stop();
            x.use(1);
            // 9999 makes 99, of which 98 are spilled, and a rest of 99; 50 are bled, 1 is used.
            int[] last = {949, 4138, 99, 101, 99, 98, 50, 1, 2};
            for (int what = 0; what <= 8; what++) {
                Check.due("not empty, " + what, x.cell(5, what), last[what]);
            }
            Check.due("cells before", x.battery(cells), 6);
            x.battery(6);
            for (int what = 0; what <= 8; what++) {
                int due = what == 1 ? 3000 : 0;
                Check.dueCells("empty behind " + cells, x, what, due, due, due, due, due, due);
            }
        }
    }

    // Promise 2: "the charger is idle then"
    private static void batteryMakesIdleOfEachState() {
        ChargeStages idle = new ChargeStages();
        ChargeStages charging = Check.charging("r2");
        ChargeStages paused = Check.charging("r2");
        paused.set(3, 46);
        paused.pass(1);
        ChargeStages done = Check.charging("r1");
        done.pass(1);
        ChargeStages fault = Check.charging("r2/1");
        fault.pass(1);
        ChargeStages[] all = {idle, charging, paused, done, fault};
        int[] states = {0, 1, 1, 2, 3};
        for (int i = 0; i < all.length; i++) {
            Check.due("the state " + i, all[i].count(3), states[i]);
            Check.due("the same number of cells is an act, too", all[i].battery(3), 3);
            Check.due("idle " + i, all[i].count(3), 0);
            Check.due("no stage " + i, all[i].count(4), N);
            Check.due("not paused " + i, all[i].count(9), 0);
            Check.due("nothing to stop " + i, all[i].stop(), N);
            Check.due("not done then " + i, all[i].doneIn(), N);
        }
        Check.due("once done still", done.count(10), 1);
        Check.due("once at fault still", fault.count(11), 1);
    }

    // Promise 2: "(all else stays)"
    private static void batteryLeavesAllElse() {
        ChargeStages x = Check.charging("r2;c7:4500/9");
        x.set(3, 50);
        x.pass(2);
        x.keep();
        x.set(3, 40);
        x.pass(3);
        int[] before = StateOf.row(x);
        int length = x.count(13);
        x.battery(3);
        int[] behind = StateOf.row(x);
        // The counts 3, 4 and 5 tell of the state; the cells, from 12 on, are empty ones.
        for (int i = 0; i < before.length; i++) {
            if (i != 3 && i != 4 && i != 5 && i != 7 && i != 8 && (i < 12 || i >= 12 + 6 * 9)) {
                Check.due("what stays, number " + i, behind[i], before[i]);
            }
        }
        Check.due("the text stays", x.count(13), length);
        Check.due("the profile can be started", x.start(), 0);
        Check.due("the snapshot stays", x.restore(), 2);
    }

    // Promise 3: "(nothing is counted by that; its rest becomes 0)"
    private static void setChargeCountsNothing() {
        ChargeStages x = Check.charging("c5:4500");
        x.pass(1);
        Check.dueCells("a rest", x, 2, 50, 50, 50);
        Check.due("up to full", x.setCharge(1, 1000), 4);
        Check.due("down to empty", x.setCharge(2, 0), 4);
        Check.dueCells("the charges", x, 0, 4, 1000, 0);
        Check.dueCells("the rests", x, 2, 50, 0, 0);
        Check.dueCells("came in", x, 3, 5, 5, 5);
        Check.dueCells("stored", x, 4, 4, 4, 4);
        for (int what = 5; what <= 7; what++) {
            Check.dueCells("nothing else", x, what, 0, 0, 0);
        }
        Check.dueCells("lost", x, 8, 1, 1, 1);
    }

    // Promise 3: "NONE if it is so already, with a rest of 0"
    private static void setChargeIsNoneWithoutARestAlone() {
        ChargeStages x = Check.charging("c5:4500");
        Check.due("empty already", x.setCharge(0, 0), N);
        x.pass(1);
        int states = x.count(12);
        x.stop();
        Check.due("so already, but for a rest", x.setCharge(0, 4), 4);
        x.undo();
        Check.due("its rest is undone", x.cell(0, 2), 50);
        x.setCharge(0, 4);
        Check.due("so already, with no rest", x.setCharge(0, 4), N);
        Check.due("acts", x.count(12), Math.min(4, states + 2));
        ChargeStages full = cellsOf(1000);
        Check.due("full already", full.setCharge(0, 1000), N);
    }

    // Promise 4: "amount: 1 to 5000"
    private static void useOfOneToFiveThousand() {
        ChargeStages x = cellsOf(0);
        x.set(0, 5000);
        x.setCharge(0, 5000);
        Check.due("use 0", x.use(0), B);
        Check.due("use 5001", x.use(5001), B);
        Check.due("use 5000", x.use(5000), 0);
        Check.due("it is empty", x.cell(0, 0), 0);
        Check.due("used", x.cell(0, 7), 5000);
        x.setCharge(0, 5000);
        Check.due("use 1", x.use(1), 4999);
        Check.due("used more", x.cell(0, 7), 5001);
    }

    // Promise 4: "Returns the least charge of a cell then", 0 too
    private static void useOfTheLeastCharge() {
        ChargeStages x = cellsOf(30, 20, 40);
        Check.due("one more than the least", x.use(21), P);
        Check.due("the least", x.use(20), 0);
        Check.dueCells("what is left", x, 0, 10, 0, 20);
        Check.due("of an empty cell", x.use(1), P);
        Check.dueCells("used once", x, 7, 20, 20, 20);
    }

    // Promise 4: "NOT_POSSIBLE if .. any cell has less"
    private static void useLooksAtEachCell() {
        for (int least = 0; least < 6; least++) {
            ChargeStages x = cellsOf(100, 100, 100, 100, 100, 100);
            x.setCharge(least, 99);
            Check.due("less at " + least, x.use(100), P);
            Check.due("as much at " + least, x.use(99), 0);
        }
    }

    // Promise 4: "NOT_POSSIBLE if it is charging"
    private static void useWhenNotCharging() {
        ChargeStages x = Check.charging("r3/1");
        x.setCharge(0, 9);
        x.setCharge(1, 9);
        x.setCharge(2, 9);
        Check.due("charging", x.use(1), P);
        x.set(3, 80);
        Check.due("paused", x.use(1), P);
        x.set(3, 25);
        x.pass(1);
        Check.due("at fault", x.use(1), 8);
        x.stop();
        Check.due("idle", x.use(1), 7);
    }

    // Promise 5: "Returns the previous value plus 1000"
    private static void setTellsThePreviousValuePlus1000() {
        ChargeStages x = new ChargeStages();
        Check.due("from 25 to -30", x.set(3, -30), 1025);
        Check.due("from -30 to 0", x.set(3, 0), 970);
        Check.due("from 0 to -1", x.set(3, -1), 1000);
        Check.due("from -1", x.set(3, 80), 999);
        x.set(0, 5000);
        Check.due("from 5000", x.set(0, 100), 6000);
        Check.due("from 100", x.set(0, 101), 1100);
    }

    // Promise 5: "NOT_POSSIBLE if it is the capacity, and any cell has more charge"
    private static void capacityNotBelowAnyCharge() {
        for (int full = 0; full < 6; full++) {
            ChargeStages x = cellsOf(150, 150, 150, 150, 150, 150);
            x.setCharge(full, 200);
            Check.due("more at " + full, x.set(0, 199), P);
            Check.due("as much at " + full, x.set(0, 200), 2000);
            Check.due("it is full at " + full, x.cell(full, 1), 4200);
            Check.due("another setting of that value", x.set(7, 199), 1020);
        }
        ChargeStages y = cellsOf(1000, 0);
        y.battery(1);
        Check.due("a cell that is gone", y.set(0, 100), 2000);
        ChargeStages z = Check.charging("c5:4500");
        z.setCharge(0, 100);
        z.set(0, 101);
        z.pass(1);
        Check.due("a capacity below what was stored", z.set(0, 100), P);
    }

    // Promise 5: "or if the lowest temperature would be more than the highest one"
    private static void lowestNotAboveTheHighest() {
        ChargeStages x = new ChargeStages();
        Check.due("the lowest, one above", x.set(5, 46), P);
        Check.due("the lowest, the same", x.set(5, 45), 1000);
        Check.due("the highest, one below", x.set(6, 44), P);
        Check.due("the highest as it is", x.set(6, 45), N);
        Check.due("the lowest as it is", x.set(5, 45), N);
        Check.due("the highest at its most", x.set(6, 80), 1045);
        Check.due("the lowest at its most", x.set(5, 80), 1045);
        Check.due("the highest, one below its most", x.set(6, 79), P);
        Check.due("the lowest at its least", x.set(5, -30), 1080);
        Check.due("the highest at its least", x.set(6, -30), 1080);
        Check.due("the lowest, one above its least", x.set(5, -29), P);
        Check.due("the temperature may be outside", x.set(3, 80), 1025);
    }

    // Promise 15: "what: 0 for its charge .. 8 for what was lost"
    private static void cellTellsEachNumber() {
        ChargeStages x = Check.charging("c2000:4500");
        x.battery(2);
        x.set(0, 5000);
        x.set(2, 53);
        x.set(7, 0);
        x.setCharge(1, 4000);
        x.start();
        x.pass(1);
        x.set(8, 7);
        x.stop();
        x.pass(1);
        x.use(11);
        // 2000 * 53 / 100 = 1060 are stored: 60 above 5000.
        int[] first = {1049, 3251, 0, 2000, 1060, 0, 0, 11, 940};
        int[] second = {4982, 4195, 0, 2000, 1060, 60, 7, 11, 940};
        for (int what = 0; what <= 8; what++) {
            Check.dueCells("what " + what, x, what, first[what], second[what]);
        }
        for (int what : new int[] {-1, 9, MIN, MAX}) {
            Check.due("what " + what, x.cell(0, what), B);
            Check.due("the cell goes ahead of what " + what, x.cell(2, what), U);
        }
    }

    // Promise 15: "what came in less what was stored (so what is in the rest counts as lost, too)"
    private static void lostCountsTheRest() {
        ChargeStages x = Check.charging("c1:4500");
        x.set(2, 99);
        x.pass(1);
        Check.dueCells("all of 1 is in the rest", x, 8, 1, 1, 1);
        Check.dueCells("a rest of 99", x, 2, 99, 99, 99);
        x.pass(1);
        Check.dueCells("1 of 2 is stored", x, 8, 1, 1, 1);
        x.setCharge(0, 1);
        Check.due("a rest is known no more", x.cell(0, 2), 0);
        Check.due("but lost", x.cell(0, 8), 1);
        ChargeStages all = Check.charging("c1:4500");
        all.set(2, 100);
        all.pass(9);
        Check.dueCells("nothing is lost", all, 8, 0, 0, 0);
    }

    // Promise 16: "which: 0 to 8"; "Returns the setting plus 1000; UNKNOWN."
    private static void settingTellsPlus1000() {
        ChargeStages x = new ChargeStages();
        for (int which : new int[] {-1, 9, MIN, MAX}) {
            Check.due("setting " + which, x.setting(which), U);
        }
        x.set(5, -30);
        Check.due("the lowest", x.setting(5), 970);
        Check.due("the last one", x.setting(8), 1000);
        Check.due("the first one", x.setting(0), 2000);
    }

    // Promise 18: "current: 0 to 2000"
    private static void voltageOfZeroTo2000() {
        ChargeStages x = new ChargeStages();
        for (int current : new int[] {-1, 2001, MIN, MAX}) {
            Check.due("voltage " + current, x.voltage(current), B);
        }
        Check.due("voltage 0", x.voltage(0), 3000);
        Check.due("voltage 2000", x.voltage(2000), 3200);
        Check.due("it is told when idle, too", x.voltage(1000), 3100);
    }
}
