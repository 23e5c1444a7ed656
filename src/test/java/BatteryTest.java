/** Promises 1 to 5: a new object, battery, setCharge, use, set; and 15 and 16: cell, setting. */
public final class BatteryTest {
    private static final int U = ChargeStages.UNKNOWN;
    private static final int B = ChargeStages.BAD_VALUE;
    private static final int P = ChargeStages.NOT_POSSIBLE;
    private static final int N = ChargeStages.NONE;
    private static final int[] LEAST = {100, 0, 50, -30, 0, -30, -30, 0, 0};
    private static final int[] MOST = {5000, 200, 100, 80, 10, 80, 80, 500, 50};
    private static final int[] FIRST = {1000, 100, 90, 25, 3, 0, 45, 20, 0};

    public static void main(String[] args) {
        constants();
        newObject();
        takesAnotherBattery();
        batteryLeavesNothingOfTheCells();
        sixCells();
        objectsShareNothing();
        setsCharges();
        draws();
        sets();
        setsWithinEachOther();
        tellsCells();
        tellsSettings();
        Check.finish();
    }

    private static void constants() {
        Check.due("UNKNOWN", U, -1);
        Check.due("BAD_VALUE", B, -2);
        Check.due("FULL", ChargeStages.FULL, -3);
        Check.due("NOT_POSSIBLE", P, -4);
        Check.due("NONE", N, -5);
    }

    private static void newObject() {
        ChargeStages x = new ChargeStages();
        int[] counts = {0, 3, 0, 0, N, 0, 0, 0, 0, 0, 0, 0, 0, 0};
        for (int what = 0; what < counts.length; what++) {
            Check.due("new: count(" + what + ")", x.count(what), counts[what]);
        }
        for (int cell = 0; cell < 3; cell++) {
            for (int what = 0; what <= 8; what++) {
                int due = what == 1 ? 3000 : 0;
                Check.due("new: cell(" + cell + ", " + what + ")", x.cell(cell, what), due);
            }
        }
        for (int which = 0; which < 9; which++) {
            Check.due("new: setting(" + which + ")", x.setting(which), FIRST[which] + 1000);
        }
        Check.due("new: event(0, 0)", x.event(0, 0), N);
        Check.due("new: undo()", x.undo(), N);
        Check.due("new: restore()", x.restore(), N);
        Check.due("new: stage(0, 0)", x.stage(0, 0), U);
    }

    private static void takesAnotherBattery() {
        ChargeStages x = new ChargeStages();
        Check.due("battery(0)", x.battery(0), B);
        Check.due("battery(7)", x.battery(7), B);
        Check.due("battery(least)", x.battery(Integer.MIN_VALUE), B);
        Check.due("battery(greatest)", x.battery(Integer.MAX_VALUE), B);
        Check.due("no state is kept", x.count(12), 0);
        Check.due("battery(6)", x.battery(6), 3);
        Check.due("it is an act", x.count(12), 1);
        Check.due("battery(6) again", x.battery(6), 6);
        Check.due("it is an act again", x.count(12), 2);
        Check.due("cells", x.count(1), 6);
        Check.due("battery(1)", x.battery(1), 6);
        Check.due("cell(1, 0) of one", x.cell(1, 0), U);
        batteryMakesEmptyAndIdle();
    }

    private static void batteryMakesEmptyAndIdle() {
        ChargeStages x = Check.charging("c2000:4500");
        x.set(2, 77);
        x.set(0, 1200);
        x.set(8, 3);
        x.set(7, 0);
        x.setCharge(0, 1000);
        x.pass(1);
        x.stop();
        x.use(30);
        x.start();
        x.set(3, 60);
        x.pass(2);
        int events = eventsOf(x);
        Check.due("battery(4) of a charging one", x.battery(4), 3);
        Check.due("it is idle", x.count(3), 0);
        Check.due("its stage", x.count(4), N);
        for (int what = 0; what <= 8; what++) {
            Check.dueCells("another battery", x, what, what == 1 ? new int[] {3000, 3000, 3000, 3000}
                    : new int[4]);
        }
        Check.due("the tick stays", x.count(0), 3);
        Check.due("paused ticks stay", x.count(6), 2);
        Check.due("the profile stays", x.count(2), 1);
        Check.due("settings stay", x.setting(2), 1077);
        Check.due("the log stays", eventsOf(x), events);
        x.undo();
        Check.due("undone: charging", x.count(3), 1);
        Check.due("undone: cells", x.count(1), 3);
        Check.due("undone: used", x.cell(0, 7), 30);
        x.battery(2);
        x.battery(3);
        Check.due("a cell that comes back is empty", x.cell(2, 7), 0);
    }

    private static void batteryLeavesNothingOfTheCells() {
        ChargeStages x = Check.charging("c5:4500");
        x.set(8, 7);
        x.setCharge(1, 500);
        x.pass(1);
        Check.due("a rest", x.cell(0, 2), 50);
        Check.due("bled", x.cell(1, 6), 7);
        x.battery(3);
        for (int what = 2; what <= 8; what++) {
            Check.dueCells("nothing is left", x, what, 0, 0, 0);
        }
        Check.due("a charge of 0, with no rest", x.setCharge(0, 0), N);
    }

    private static void sixCells() {
        ChargeStages x = new ChargeStages();
        x.battery(6);
        Check.read(x, "c100:4500");
        x.set(8, 5);
        for (int cell = 0; cell < 6; cell++) {
            x.setCharge(cell, 100 * cell);
        }
        x.start();
        x.pass(1);
        x.stop();
        x.use(50);
        Check.dueCells("six", x, 0, 40, 135, 235, 335, 435, 535);
        Check.due("the least of six", x.count(7), 40);
        Check.due("the greatest of six", x.count(8), 535);
        Check.due("a seventh", x.cell(6, 0), U);
        Check.due("the charge of the last one later", x.chargeIn(5, 2), 525);
    }

    private static void objectsShareNothing() {
        ChargeStages x = new ChargeStages();
        ChargeStages y = new ChargeStages();
        x.set(0, 2000);
        x.setCharge(0, 5);
        x.type('r');
        x.keep();
        Check.due("another object's setting", y.setting(0), 2000);
        Check.due("another object's charge", y.cell(0, 0), 0);
        Check.due("another object's text", y.count(13), 0);
        Check.due("another object's history", y.undo(), N);
        Check.due("another object's snapshot", y.restore(), N);
    }

    private static int eventsOf(ChargeStages x) {
        int events = 0;
        while (events < 10 && x.event(events, 0) != N) {
            events++;
        }
        return events;
    }

    private static void setsCharges() {
        ChargeStages x = new ChargeStages();
        Check.due("setCharge(-1, 0)", x.setCharge(-1, 0), U);
        Check.due("setCharge(3, 0)", x.setCharge(3, 0), U);
        Check.due("a cell that is not there goes ahead of a bad charge", x.setCharge(3, -1), U);
        Check.due("setCharge(0, -1)", x.setCharge(0, -1), B);
        Check.due("setCharge(0, 1001)", x.setCharge(0, 1001), B);
        Check.due("setCharge(0, 0)", x.setCharge(0, 0), N);
        Check.due("no state is kept", x.count(12), 0);
        Check.due("setCharge(0, 1000)", x.setCharge(0, 1000), 0);
        Check.due("setCharge(2, 7)", x.setCharge(2, 7), 0);
        Check.due("setCharge(2, 8)", x.setCharge(2, 8), 7);
        Check.due("acts", x.count(12), 3);
        Check.dueCells("set charges", x, 0, 1000, 0, 8);
        for (int what = 2; what <= 8; what++) {
            Check.dueCells("nothing is counted", x, what, 0, 0, 0);
        }
        x.set(0, 5000);
        Check.due("setCharge up to the capacity", x.setCharge(1, 5000), 0);
        Check.due("setCharge above the capacity", x.setCharge(1, 5001), B);
        setChargeEmptiesTheRest();
    }

    private static void setChargeEmptiesTheRest() {
        ChargeStages x = Check.charging("c5:4500");
        x.pass(1);
        Check.due("5 * 90 / 100", x.cell(0, 0), 4);
        Check.due("the rest of 450", x.cell(0, 2), 50);
        Check.due("what was lost, with the rest", x.cell(0, 8), 1);
        Check.due("the same charge with another rest", x.setCharge(0, 4), 4);
        Check.due("the rest is 0", x.cell(0, 2), 0);
        Check.due("the rest of another cell stays", x.cell(1, 2), 50);
        Check.due("what came in stays", x.cell(0, 3), 5);
        Check.due("what was stored stays", x.cell(0, 4), 4);
        Check.due("the same charge with no rest", x.setCharge(0, 4), N);
        x.pass(1);
        Check.dueCells("the rest counts later", x, 0, 8, 9, 9);
    }

    private static void draws() {
        ChargeStages x = new ChargeStages();
        x.setCharge(0, 500);
        x.setCharge(1, 300);
        x.setCharge(2, 400);
        Check.due("use(0)", x.use(0), B);
        Check.due("use(-1)", x.use(-1), B);
        Check.due("use(5001)", x.use(5001), B);
        Check.due("use(5000)", x.use(5000), P);
        Check.due("use(301)", x.use(301), P);
        Check.dueCells("not possible changes nothing", x, 0, 500, 300, 400);
        Check.due("states", x.count(12), 3);
        Check.due("use(100)", x.use(100), 200);
        Check.due("an act", x.count(12), 4);
        Check.due("use(200)", x.use(200), 0);
        Check.dueCells("used from all cells", x, 0, 200, 0, 100);
        Check.dueCells("counted as used", x, 7, 300, 300, 300);
        Check.due("use(1) of an empty cell", x.use(1), P);
        useWhileCharging();
    }

    private static void useWhileCharging() {
        ChargeStages x = Check.charging("r9");
        for (int cell = 0; cell < 3; cell++) {
            x.setCharge(cell, 100);
        }
        Check.due("use(1) while charging", x.use(1), P);
        Check.due("use(0) while charging", x.use(0), B);
        x.set(3, 80);
        Check.due("use(1) in a pause", x.use(1), P);
        x.stop();
        Check.due("use(1) when idle", x.use(1), 99);
        ChargeStages done = Check.charging("r1");
        for (int cell = 0; cell < 3; cell++) {
            done.setCharge(cell, 100);
        }
        done.pass(1);
        Check.due("use(100) when done", done.use(100), 0);
        ChargeStages fault = Check.charging("r2/1");
        for (int cell = 0; cell < 3; cell++) {
            fault.setCharge(cell, 100);
        }
        fault.pass(1);
        Check.due("use(2) at fault", fault.use(2), 98);
        fault.battery(1);
        fault.set(0, 5000);
        fault.setCharge(0, 5000);
        Check.due("use(5000) of a full cell", fault.use(5000), 0);
    }

    private static void sets() {
        for (int which = 0; which < 9; which++) {
            ChargeStages x = new ChargeStages();
            x.set(5, -30);
            x.set(6, 80);
            int before = x.setting(which);
            int states = x.count(12);
            String name = "setting " + which + ": ";
            Check.due(name + "below", x.set(which, LEAST[which] - 1), B);
            Check.due(name + "above", x.set(which, MOST[which] + 1), B);
            Check.due(name + "far below", x.set(which, Integer.MIN_VALUE), B);
            Check.due(name + "far above", x.set(which, Integer.MAX_VALUE), B);
            Check.due(name + "as it is", x.set(which, before - 1000), N);
            Check.due(name + "no state is kept", x.count(12), states);
            int other = LEAST[which] == before - 1000 ? MOST[which] : LEAST[which];
            int back = LEAST[which] + MOST[which] - other;
            Check.due(name + "one end", x.set(which, other), before);
            Check.due(name + "an act", x.count(12), states + 1);
            Check.due(name + "is told", x.setting(which), other + 1000);
            Check.due(name + "the other end", x.set(which, back), other + 1000);
            Check.due(name + "is told again", x.setting(which), back + 1000);
        }
        ChargeStages x = new ChargeStages();
        Check.due("set(-1, 0)", x.set(-1, 0), U);
        Check.due("set(9, 0)", x.set(9, 0), U);
        Check.due("set(9, least)", x.set(9, Integer.MIN_VALUE), U);
    }

    private static void setsWithinEachOther() {
        ChargeStages x = new ChargeStages();
        x.setCharge(1, 700);
        Check.due("a capacity below a charge", x.set(0, 699), P);
        Check.due("a capacity out of range", x.set(0, 99), B);
        Check.due("a capacity as a charge", x.set(0, 700), 2000);
        Check.due("the cell is full then", x.cell(1, 1), 4200);
        Check.due("the lowest above the highest", x.set(5, 46), P);
        Check.due("the lowest as the highest", x.set(5, 45), 1000);
        Check.due("the highest below the lowest", x.set(6, 44), P);
        Check.due("the highest as it is", x.set(6, 45), N);
        Check.due("the highest above", x.set(6, 46), 1045);
        Check.due("the temperature may be anywhere", x.set(3, -30), 1025);
        Check.due("a negative one is told", x.set(3, -29), 970);
        Check.due("settings of a charging charger", Check.charging("r2").set(1, 0), 1100);
    }

    private static void tellsCells() {
        ChargeStages x = new ChargeStages();
        x.set(0, 700);
        x.setCharge(2, 1);
        Check.due("a base voltage is rounded down", x.cell(2, 1), 3001);
        x.setCharge(2, 699);
        Check.due("a base voltage below the greatest", x.cell(2, 1), 4198);
        Check.due("cell(-1, 0)", x.cell(-1, 0), U);
        Check.due("cell(3, 0)", x.cell(3, 0), U);
        Check.due("cell(3, -1)", x.cell(3, -1), U);
        Check.due("cell(0, -1)", x.cell(0, -1), B);
        Check.due("cell(0, 9)", x.cell(0, 9), B);
        Check.due("nothing is recorded by telling", x.count(12), 3);
        numbersOfACell();
    }

    private static void numbersOfACell() {
        ChargeStages x = Check.charging("c1999:4500");
        x.setCharge(0, 100);
        x.set(2, 51);
        x.set(8, 50);
        x.pass(1);
        x.stop();
        x.set(8, 0);
        x.use(10);
        // 1999 * 51 = 101949: 1019 are stored, 49 stay, 119 and 19 are spilled.
        int[] first = {990, 4188, 49, 1999, 1019, 119, 0, 10, 980};
        int[] second = {990, 4188, 49, 1999, 1019, 19, 0, 10, 980};
        for (int what = 0; what <= 8; what++) {
            Check.dueCells("all numbers", x, what, first[what], second[what], second[what]);
        }
    }

    private static void tellsSettings() {
        ChargeStages x = new ChargeStages();
        Check.due("setting(-1)", x.setting(-1), U);
        Check.due("setting(9)", x.setting(9), U);
        x.set(3, -30);
        Check.due("setting(3)", x.setting(3), 970);
    }
}
