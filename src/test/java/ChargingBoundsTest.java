/** The boundaries that CHARGING names, a test for each sentence, which stands above it. */
public final class ChargingBoundsTest {
    private static final int N = ChargeStages.NONE;

    public static void main(String[] args) {
        idleAtFirst();
        pausedBelowTheLowest();
        pausedAboveTheHighest();
        pausedOutsideOneTemperatureAlone();
        pausedWhenChargingAlone();
        nothingHappensInAPause();
        cellsAreBledInAPause();
        restOfJustAHundred();
        restIsWhatIsLeft();
        leastEfficiency();
        spillsWhatIsAboveTheCapacity();
        spillsAllOfAFullCell();
        spilledIsStored();
        nextStageOrDone();
        endGoesAheadOfATimer();
        timerOfAsManyTicks();
        timerOfAStageThatEndsAsItBegins();
        timerIsNotOfPausedTicks();
        timerIsOfItsStageAlone();
        faultIsNotGoneOnWith();
        bledAboveTheThresholdAlone();
        bledByBaseVoltagesNotCharges();
        bledAsTheyAllAreAheadOfThat();
        bledByAllThatItHas();
        bledByNothing();
        bledByTheMost();
        notBledAlone();
        bledWhateverTheStateIs();
        bledBehindWhatIsCharged();
        tickBecomesGreaterByOne();
        Check.finish();
    }

    private static ChargeStages cellsOf(int... charges) {
        ChargeStages x = new ChargeStages();
        x.battery(charges.length);
        for (int cell = 0; cell < charges.length; cell++) {
            x.setCharge(cell, charges[cell]);
        }
        return x;
    }

    private static ChargeStages bleeding(int bleed, int threshold, int... charges) {
        ChargeStages x = cellsOf(charges);
        x.set(8, bleed);
        x.set(7, threshold);
        return x;
    }

    // "0 idle (at first)"
    private static void idleAtFirst() {
        ChargeStages x = new ChargeStages();
        Check.due("state", x.count(3), 0);
        Check.due("stage", x.count(4), N);
        Check.due("lasted", x.count(5), 0);
        Check.due("a tick", x.pass(1), 0);
        Check.dueCells("nothing comes in", x, 3, 0, 0, 0);
    }

    // "If the temperature is less than the lowest .. one, a charging charger is paused"
    private static void pausedBelowTheLowest() {
        ChargeStages x = Check.charging("r9");
        x.set(3, 0);
        Check.due("at the lowest", x.count(9), 0);
        x.pass(1);
        Check.due("no paused tick", x.count(6), 0);
        x.set(3, -1);
        Check.due("one less", x.count(9), 1);
        x.pass(1);
        Check.due("a paused tick", x.count(6), 1);
        x.set(5, -30);
        x.set(3, -30);
        Check.due("at the least", x.count(9), 0);
        x.set(5, -29);
        Check.due("one less than another lowest", x.count(9), 1);
    }

    // "or more than the highest one"
    private static void pausedAboveTheHighest() {
        ChargeStages x = Check.charging("r9");
        x.set(3, 45);
        Check.due("at the highest", x.count(9), 0);
        x.pass(1);
        Check.due("no paused tick", x.count(6), 0);
        x.set(3, 46);
        Check.due("one more", x.count(9), 1);
        x.pass(1);
        Check.due("a paused tick", x.count(6), 1);
        x.set(6, 80);
        x.set(3, 80);
        Check.due("at the most", x.count(9), 0);
        x.set(6, 79);
        Check.due("one more than another highest", x.count(9), 1);
    }

    // "less than the lowest or more than the highest one", where both are one
    private static void pausedOutsideOneTemperatureAlone() {
        ChargeStages x = Check.charging("r9");
        x.set(5, 25);
        x.set(6, 25);
        Check.due("at it", x.count(9), 0);
        x.set(3, 24);
        Check.due("below it", x.count(9), 1);
        x.set(3, 26);
        Check.due("above it", x.count(9), 1);
    }

    // "a charging charger is paused"
    private static void pausedWhenChargingAlone() {
        ChargeStages x = new ChargeStages();
        x.set(3, 80);
        Check.due("idle", x.count(9), 0);
        x.pass(1);
        Check.read(x, "r2/1");
        x.start();
        Check.due("charging", x.count(9), 1);
        x.set(3, 25);
        x.pass(1);
        x.set(3, 80);
        Check.due("at fault", x.count(3), 3);
        Check.due("at fault, not paused", x.count(9), 0);
        x.pass(1);
        Check.read(x, "r1");
        x.set(3, 25);
        x.start();
        x.pass(1);
        x.set(3, 80);
        Check.due("done", x.count(3), 2);
        Check.due("done, not paused", x.count(9), 0);
        x.pass(1);
        Check.due("no paused tick of them", x.count(6), 0);
        Check.due("no pause of them", x.event(0, 0), 1);
    }

    // "in a tick, nothing happens but that the tick is counted as a paused one"
    private static void nothingHappensInAPause() {
        String[] profiles = {"c100:3000;r1", "v3000:2000;r1", "v4500:0/1", "r1;r1", "r9/1"};
        for (String profile : profiles) {
            ChargeStages x = Check.charging(profile);
            x.set(3, 46);
            Check.due(profile + ": the state", x.pass(5), 1);
            Check.due(profile + ": the stage", x.count(4), 0);
            Check.due(profile + ": lasted", x.count(5), 0);
            Check.due(profile + ": paused ticks", x.count(6), 5);
            Check.due(profile + ": the tick", x.count(0), 5);
            for (int what = 2; what <= 8; what++) {
                Check.dueCells(profile, x, what, 0, 0, 0);
            }
            Check.dueEvent(profile, x, 0, 3, 0, 0);
            Check.dueEvent(profile, x, 1, 0, 0, 0);
        }
    }

    // "and what is told below of cells that are bled"
    private static void cellsAreBledInAPause() {
        ChargeStages x = Check.charging("c100:4500");
        x.set(8, 5);
        x.setCharge(1, 100);
        x.set(3, -1);
        x.pass(2);
        Check.dueCells("bled", x, 6, 0, 10, 0);
        Check.dueCells("left", x, 0, 0, 90, 0);
        Check.dueCells("nothing came in", x, 3, 0, 0, 0);
    }

    private static ChargeStages charged(String profile, int efficiency, int ticks) {
        ChargeStages x = Check.charging(profile);
        x.set(2, efficiency);
        x.pass(ticks);
        return x;
    }

    // "the rest divided by 100 is stored": 99, 100 and 101
    private static void restOfJustAHundred() {
        ChargeStages below = charged("c1:4500", 99, 1);
        Check.dueCells("99: stored", below, 4, 0, 0, 0);
        Check.dueCells("99: the rest", below, 2, 99, 99, 99);
        ChargeStages just = charged("c1:4500", 100, 1);
        Check.dueCells("100: stored", just, 4, 1, 1, 1);
        Check.dueCells("100: the rest", just, 2, 0, 0, 0);
        ChargeStages half = charged("c1:4500", 50, 2);
        Check.dueCells("50 and 50: stored", half, 4, 1, 1, 1);
        Check.dueCells("50 and 50: the rest", half, 2, 0, 0, 0);
        ChargeStages above = charged("c2:4500", 51, 1);
        Check.dueCells("102: stored", above, 4, 1, 1, 1);
        Check.dueCells("102: the rest", above, 2, 2, 2, 2);
    }

    // "and the rest becomes what is left of it by that division"
    private static void restIsWhatIsLeft() {
        ChargeStages x = charged("c7:4500", 97, 1);
        int[] rests = {79, 58, 37, 16, 95};
        int[] stored = {6, 13, 20, 27, 33};
        for (int i = 0; i < rests.length; i++) {
            Check.dueCells("the rest behind " + i, x, 2, rests[i], rests[i], rests[i]);
            Check.dueCells("stored behind " + i, x, 4, stored[i], stored[i], stored[i]);
            Check.dueCells("charged behind " + i, x, 0, stored[i], stored[i], stored[i]);
            x.pass(1);
        }
    }

    // "2 the efficiency in percent (50 to 100; 90)"
    private static void leastEfficiency() {
        ChargeStages least = charged("c2000:4500", 50, 1);
        Check.dueCells("half of it", least, 4, 1000, 1000, 1000);
        Check.dueCells("the other half", least, 8, 1000, 1000, 1000);
        ChargeStages most = charged("c2000:4500", 100, 1);
        Check.dueCells("all of it", most, 4, 2000, 2000, 2000);
        Check.dueCells("none lost", most, 8, 0, 0, 0);
    }

    // "if the charge is above the capacity then, what is above it is spilled"
    private static void spillsWhatIsAboveTheCapacity() {
        ChargeStages x = Check.charging("c100:4500");
        x.setCharge(0, 909);
        x.setCharge(1, 910);
        x.setCharge(2, 911);
        x.pass(1);
        Check.dueCells("below, at and above", x, 0, 999, 1000, 1000);
        Check.dueCells("spilled", x, 5, 0, 0, 1);
    }

    // "it is taken away, and added to the count of what was spilled", of a cell that is full
    private static void spillsAllOfAFullCell() {
        ChargeStages x = Check.charging("c11:4500");
        x.setCharge(1, 1000);
        x.pass(2);
        Check.due("full still", x.cell(1, 0), 1000);
        Check.due("all is spilled", x.cell(1, 5), 19);
        Check.due("the rest is not", x.cell(1, 2), 80);
        Check.due("nor is another cell's", x.cell(0, 5), 0);
    }

    // "it is added to the charge, and to the count of what was stored", also what is spilled then
    private static void spilledIsStored() {
        ChargeStages x = Check.charging("c2000:4500");
        x.battery(1);
        x.set(0, 100);
        x.set(2, 100);
        x.start();
        x.pass(3);
        Check.due("came in", x.cell(0, 3), 6000);
        Check.due("stored", x.cell(0, 4), 6000);
        Check.due("spilled", x.cell(0, 5), 5900);
        Check.due("the charge", x.cell(0, 0), 100);
        Check.due("lost", x.cell(0, 8), 0);
    }

    // "the next stage begins, or the charger is done, if there is none"
    private static void nextStageOrDone() {
        ChargeStages x = Check.charging("r1;r1");
        x.pass(1);
        Check.due("the next", x.count(4), 1);
        Check.due("not done", x.count(10), 0);
        Check.due("none", x.pass(1), 2);
        Check.due("done", x.count(10), 1);
        Check.due("no stage", x.count(4), N);
        x.pass(9);
        Check.due("done once", x.count(10), 1);
        Check.due("no more events", x.event(3, 0), N);
    }

    // "Otherwise, if it has a timer": the end goes ahead in one tick
    private static void endGoesAheadOfATimer() {
        ChargeStages rest = Check.charging("r3/3");
        Check.due("a rest", rest.pass(3), 2);
        Check.due("no fault", rest.count(11), 0);
        ChargeStages current = Check.charging("c100:3118/1");
        Check.due("a constant current", current.pass(1), 2);
        ChargeStages later = Check.charging("r3/4;r9");
        later.pass(4);
        Check.due("a timer behind the end", later.count(4), 1);
    }

    // "and has lasted for as many ticks, the charger is at fault"
    private static void timerOfAsManyTicks() {
        ChargeStages x = Check.charging("r9/3");
        Check.due("1", x.pass(1), 1);
        Check.due("2", x.pass(1), 1);
        Check.due("3", x.pass(1), 3);
        Check.dueEvent("at fault", x, 0, 2, 2, 0);
        ChargeStages current = Check.charging("c100:3119/1");
        Check.due("a constant current below its limit", current.pass(1), 3);
        Check.due("it was charged", current.cell(0, 3), 100);
        ChargeStages held = Check.charging("v3100:0/1");
        Check.due("a held voltage", held.pass(1), 3);
        Check.due("it was charged, too", held.cell(0, 3), 1009);
    }

    // "as it began": a held voltage that ends has not lasted for its timer
    private static void timerOfAStageThatEndsAsItBegins() {
        ChargeStages x = Check.charging("v3100:500/2");
        x.pass(1);
        Check.due("lasted", x.count(5), 1);
        Check.due("done in the tick of the timer", x.pass(1), 2);
        Check.due("no fault", x.count(11), 0);
    }

    // "nothing happens" in a pause: it has not lasted then
    private static void timerIsNotOfPausedTicks() {
        ChargeStages x = Check.charging("r9/2");
        x.pass(1);
        x.set(3, 46);
        x.pass(9);
        Check.due("lasted", x.count(5), 1);
        x.set(3, 45);
        Check.due("the second one", x.pass(1), 3);
    }

    // "has lasted for as many ticks": each stage anew
    private static void timerIsOfItsStageAlone() {
        ChargeStages x = Check.charging("r5;r3/2");
        x.pass(5);
        Check.due("lasted", x.count(5), 0);
        Check.due("1 of 2", x.pass(1), 1);
        Check.due("2 of 2", x.pass(1), 3);
        Check.dueEvent("at fault", x, 0, 2, 6, 1);
        ChargeStages y = Check.charging("r3/2;r5");
        y.pass(1);
        y.stop();
        y.start();
        Check.due("1 of 2, started again", y.pass(1), 1);
    }

    // "3 at fault": "In a tick, if it is charging"
    private static void faultIsNotGoneOnWith() {
        ChargeStages x = Check.charging("c10:4500/1;r1");
        x.pass(200);
        Check.due("at fault", x.count(3), 3);
        Check.due("one tick came in", x.cell(0, 3), 10);
        Check.due("once", x.count(11), 1);
        Check.due("the tick", x.count(0), 200);
        Check.due("two events", x.event(2, 0), N);
    }

    // "each cell whose base voltage is more than the least one .. by more than the threshold"
    private static void bledAboveTheThresholdAlone() {
        ChargeStages x = bleeding(1, 24, 100, 120, 121, 119);
        x.pass(1);
        Check.dueCells("24, 25 and 22 of 24", x, 6, 0, 0, 1, 0);
        ChargeStages none = bleeding(1, 0, 100, 100, 101);
        none.pass(1);
        Check.dueCells("0 and 1 of 0", none, 6, 0, 0, 1);
        ChargeStages most = bleeding(1, 500, 0, 417, 416);
        most.pass(1);
        Check.dueCells("500 and 499 of 500", most, 6, 0, 0, 0);
        most.setCharge(2, 418);
        most.pass(1);
        Check.dueCells("501 of 500", most, 6, 0, 0, 1);
    }

    // "whose base voltage is more": a greater charge may make the same
    private static void bledByBaseVoltagesNotCharges() {
        ChargeStages x = bleeding(50, 0, 0, 4, 5);
        x.set(0, 5000);
        x.pass(1);
        Check.dueCells("0, 0.96 and 1.2", x, 6, 0, 0, 5);
    }

    // "than the least one of all cells (as they all are ahead of that)"
    private static void bledAsTheyAllAreAheadOfThat() {
        ChargeStages first = bleeding(50, 0, 30, 20, 25, 20);
        first.pass(1);
        Check.dueCells("of 20, though the first is empty then", first, 0, 0, 20, 0, 20);
        first.pass(1);
        Check.dueCells("of 0 in the next tick", first, 0, 0, 0, 0, 0);
        ChargeStages last = bleeding(50, 0, 20, 25, 20, 30);
        last.pass(1);
        Check.dueCells("in the other order", last, 0, 20, 0, 20, 0);
    }

    // "loses as much charge as the bleed tells, or all that it has"
    private static void bledByAllThatItHas() {
        ChargeStages x = bleeding(10, 0, 0, 9, 10, 11);
        x.pass(1);
        Check.dueCells("9, 10 and 11 of 10", x, 0, 0, 0, 0, 1);
        Check.dueCells("counted as bled", x, 6, 0, 9, 10, 10);
        x.pass(1);
        Check.dueCells("1 of 10", x, 6, 0, 9, 10, 11);
        x.pass(1);
        Check.dueCells("nothing is left", x, 6, 0, 9, 10, 11);
    }

    // "8 the bleed (0 to 50; 0)": none
    private static void bledByNothing() {
        ChargeStages x = bleeding(0, 0, 0, 500, 1000);
        x.pass(200);
        Check.dueCells("a bleed of 0", x, 0, 0, 500, 1000);
        Check.dueCells("nothing bled", x, 6, 0, 0, 0);
    }

    // "8 the bleed (0 to 50; 0)": the most
    private static void bledByTheMost() {
        ChargeStages x = bleeding(50, 0, 0, 500, 1000);
        x.pass(1);
        Check.dueCells("a bleed of 50", x, 0, 0, 450, 950);
        x.pass(200);
        Check.dueCells("down to the least", x, 0, 0, 0, 0);
        Check.dueCells("all bled", x, 6, 0, 500, 1000);
    }

    // "more than the least one of all cells": one cell, and cells that are alike
    private static void notBledAlone() {
        ChargeStages one = bleeding(50, 0, 1000);
        one.pass(9);
        Check.dueCells("one cell", one, 0, 1000);
        ChargeStages alike = bleeding(50, 0, 7, 7, 7, 7, 7, 7);
        alike.pass(9);
        Check.dueCells("six alike", alike, 0, 7, 7, 7, 7, 7, 7);
    }

    // "In each tick, whatever the state is"
    private static void bledWhateverTheStateIs() {
        int[] states = {0, 1, 2, 3};
        String[] profiles = {"", "r9", "r1", "r2/1"};
        for (int i = 0; i < states.length; i++) {
            ChargeStages x = bleeding(5, 0, 0, 100);
            if (states[i] > 0) {
                Check.read(x, profiles[i]);
                x.start();
            }
            Check.due("the state behind a tick", x.pass(1), states[i]);
            Check.due("bled in that tick, state " + i, x.cell(1, 6), 5);
            x.pass(2);
            Check.due("bled in state " + i, x.cell(1, 6), 15);
        }
    }

    // "behind that": what is charged in a tick may be bled in it
    private static void bledBehindWhatIsCharged() {
        ChargeStages x = Check.charging("c10:4500");
        x.set(8, 50);
        x.set(7, 0);
        x.setCharge(0, 1);
        x.pass(1);
        Check.dueCells("all of 10 is bled", x, 6, 10, 0, 0);
        Check.dueCells("nothing is left of it", x, 0, 0, 9, 9);
    }

    // "Then the tick, 0 at first, becomes greater by 1."
    private static void tickBecomesGreaterByOne() {
        ChargeStages x = new ChargeStages();
        Check.due("at first", x.count(0), 0);
        x.pass(1);
        Check.due("behind one", x.count(0), 1);
        Check.read(x, "r2/1");
        x.start();
        Check.due("no tick by start", x.count(0), 1);
        x.set(3, 80);
        x.pass(1);
        Check.due("a paused one", x.count(0), 2);
        x.set(3, 25);
        x.pass(1);
        Check.due("one with a fault", x.count(0), 3);
        x.pass(1);
        Check.due("one at fault", x.count(0), 4);
        x.battery(1);
        Check.due("no tick by battery", x.count(0), 4);
    }
}
