/**
 * The boundaries that STAGES and the promises 7 to 9, 17 and 19 name, a test for each sentence, which
 * stands above it.
 */
public final class StageBoundsTest {
    private static final int U = ChargeStages.UNKNOWN;
    private static final int B = ChargeStages.BAD_VALUE;
    private static final int F = ChargeStages.FULL;
    private static final int P = ChargeStages.NOT_POSSIBLE;
    private static final int N = ChargeStages.NONE;
    private static final int MIN = Integer.MIN_VALUE;
    private static final int MAX = Integer.MAX_VALUE;

    public static void main(String[] args) {
        atMostFiveStages();
        noStageAtFirst();
        currentOfConstantCurrent();
        endsAtTheLimit();
        endsByTheVoltageAtThisCurrent();
        endsByAnyCell();
        endsAheadOfWhatIsBled();
        endsAboveTheLimitFromTheBeginning();
        heldFromZeroTo2000();
        heldIsNotMoreThanTheLimit();
        heldIsZeroIfThereIsNone();
        heldLooksAtEachCell();
        heldEndsAtTheLeastOrLess();
        heldEndsWithNothingCharged();
        nextStageBeginsInThatTickAlone();
        restLastsSoManyTicks();
        restChargesNothing();
        limitOfNowGoesWithTheTemperature();
        limitOfNowEndsStages();
        timerOfZeroIsNone();
        timerFrom1To999();
        startsWithStageZero();
        startIsNotPossibleWhenCharging();
        stopTellsTheState();
        passes1To200Ticks();
        passesNotAbove99999();
        stageTellsEachNumber();
        currentOfTheNextTick();
        Check.finish();
    }

    private static void due(String name, ChargeStages x, int state, int stage, int lasted) {
        Check.due(name + ": state", x.count(3), state);
        Check.due(name + ": stage", x.count(4), stage);
        Check.due(name + ": lasted", x.count(5), lasted);
    }

    /** What is the charger's stage behind one tick, of a profile with another one behind it? */
    private static int stageBehindOneTick(ChargeStages x) {
        x.pass(1);
        return x.count(4);
    }

    // "A profile has at most 5 stages, numbered from 0"
    private static void atMostFiveStages() {
        ChargeStages x = new ChargeStages();
        Check.due("five", Check.read(x, "r1;r2;r3;r4;r5"), 5);
        Check.due("six", Check.read(x, "r1;r2;r3;r4;r5;r6"), -114);
        for (int stage = 0; stage < 5; stage++) {
            Check.due("the number of " + stage, x.stage(stage, 1), stage + 1);
        }
        for (int stage : new int[] {-1, 5, MIN, MAX}) {
            Check.due("stage " + stage, x.stage(stage, 1), U);
        }
        x.start();
        for (int stage = 0; stage < 5; stage++) {
            Check.due("it goes through " + stage, x.count(4), stage);
            x.pass(stage + 1);
        }
        Check.due("done behind the fifth", x.count(3), 2);
    }

    // "(none at first)"
    private static void noStageAtFirst() {
        ChargeStages x = new ChargeStages();
        Check.due("stages", x.count(2), 0);
        Check.due("stage 0", x.stage(0, 0), U);
        Check.due("start", x.start(), P);
        Check.due("current", x.current(), 0);
        Check.due("a tick", x.pass(1), 0);
    }

    // "0: constant current: a current (1 to 2000) .. In a tick, the current is that."
    private static void currentOfConstantCurrent() {
        ChargeStages least = Check.charging("c1:4500");
        Check.due("the least", least.current(), 1);
        least.pass(1);
        Check.due("the least came in", least.cell(0, 3), 1);
        ChargeStages most = Check.charging("c2000:4500");
        most.set(1, 0);
        Check.due("the greatest", most.current(), 2000);
        most.pass(1);
        Check.due("the greatest came in", most.cell(0, 3), 2000);
        Check.due("none", Check.read(new ChargeStages(), "c0:4500"), B);
        Check.due("too much", Check.read(new ChargeStages(), "c2001:4500"), B);
    }

    // "The stage ends if .. any cell's voltage at this current is the limit of now or more."
    private static void endsAtTheLimit() {
        // 90 of 100 are stored: 3000 + 108 + 10.
        Check.due("at it", stageBehindOneTick(Check.charging("c100:3118;r9")), 1);
        Check.due("one below it", stageBehindOneTick(Check.charging("c100:3119;r9")), 0);
        Check.due("one above it", stageBehindOneTick(Check.charging("c100:3117;r9")), 1);
        Check.due("at the least limit", stageBehindOneTick(Check.charging("c1:3000;r9")), 1);
        ChargeStages full = Check.charging("c2000:4500;r9");
        full.set(1, 150);
        Check.due("at the greatest limit", stageBehindOneTick(full), 1);
        ChargeStages below = Check.charging("c1999:4500;r9");
        below.set(1, 150);
        Check.due("one below the greatest limit", stageBehindOneTick(below), 0);
    }

    // "any cell's voltage at this current": with what the current adds, rounded down
    private static void endsByTheVoltageAtThisCurrent() {
        ChargeStages x = Check.charging("c9:3009;r9");
        Check.due("8 are stored, 9 and 0.9 above", stageBehindOneTick(x), 1);
        ChargeStages y = Check.charging("c9:3010;r9");
        Check.due("9 and 0.9 are not 10", stageBehindOneTick(y), 0);
        ChargeStages z = Check.charging("c10:3011;r9");
        Check.due("9 are stored, 10 and 1 above", stageBehindOneTick(z), 1);
        ChargeStages none = Check.charging("c10:3011;r9");
        none.set(1, 0);
        Check.due("no resistance adds none", stageBehindOneTick(none), 0);
    }

    // "any cell's voltage"
    private static void endsByAnyCell() {
        for (int cell = 0; cell < 6; cell++) {
            ChargeStages x = new ChargeStages();
            x.battery(6);
            Check.read(x, "c100:3119;r9");
            x.setCharge(cell, 1);
            x.start();
            Check.due("one at the limit at " + cell, stageBehindOneTick(x), 1);
        }
    }

    // "behind what is charged in the tick (ahead of what is bled)"
    private static void endsAheadOfWhatIsBled() {
        ChargeStages x = Check.charging("c100:3719;r9");
        x.set(8, 50);
        x.setCharge(1, 500);
        Check.due("below ahead of what is charged", x.voltage(100), 3610);
        x.pass(1);
        due("below behind it", x, 1, 0, 1);
        ChargeStages y = Check.charging("c100:3718;r9");
        y.set(8, 50);
        y.setCharge(1, 500);
        y.pass(1);
        due("at the limit ahead of what is bled", y, 1, 1, 0);
        Check.due("below behind what is bled", y.voltage(100), 3658);
    }

    // "The stage ends if, behind what is charged in the tick": a full cell is charged once more
    private static void endsAboveTheLimitFromTheBeginning() {
        ChargeStages x = Check.charging("c100:3000;r9");
        x.setCharge(0, 1000);
        Check.due("the current", x.current(), 100);
        x.pass(1);
        due("ended", x, 1, 1, 0);
        Check.dueCells("but charged", x, 3, 100, 100, 100);
        Check.due("spilled", x.cell(0, 5), 90);
    }

    private static int held(int resistance, int charge, String stage) {
        ChargeStages x = Check.charging(stage);
        x.set(1, resistance);
        x.setCharge(1, charge);
        return x.current();
    }

    // "1: held voltage: .. the greatest one from 0 to 2000"
    private static void heldFromZeroTo2000() {
        Check.due("room for more than 2000", held(100, 0, "v3201:0"), 2000);
        Check.due("room for just 2000", held(100, 0, "v3200:0"), 2000);
        Check.due("room for less", held(100, 0, "v3199:0"), 1999);
        Check.due("no resistance", held(0, 1000, "v4200:0"), 2000);
        Check.due("the greatest resistance", held(200, 0, "v3399:0"), 1999);
        Check.due("room for 2000 at it", held(200, 0, "v3400:0"), 2000);
        Check.due("the least resistance", held(1, 0, "v3000:0"), 999);
    }

    // "at which no cell's voltage is more than the limit of now": at it is not more, rounded down
    private static void heldIsNotMoreThanTheLimit() {
        Check.due("no room, but 0.9 is 0", held(100, 500, "v3600:0"), 9);
        Check.due("no room at 200", held(200, 500, "v3600:0"), 4);
        Check.due("no room at 199", held(199, 500, "v3600:0"), 5);
        Check.due("a room of 1 at 200", held(200, 500, "v3601:0"), 9);
        ChargeStages x = Check.charging("v3601:0;r9");
        x.set(1, 200);
        x.setCharge(0, 500);
        Check.due("at that current", x.voltage(x.current()), 3601);
        Check.due("at one more", x.voltage(x.current() + 1), 3602);
    }

    // "(0, if there is none)"
    private static void heldIsZeroIfThereIsNone() {
        Check.due("one above the limit", held(100, 500, "v3599:0"), 0);
        Check.due("one above it without resistance", held(0, 500, "v3599:0"), 0);
        Check.due("far above the limit", held(200, 1000, "v3000:0"), 0);
        ChargeStages x = Check.charging("v3599:0;r9");
        x.setCharge(1, 500);
        x.pass(1);
        due("0 is a least of 0 or less", x, 1, 1, 0);
    }

    // "no cell's voltage"
    private static void heldLooksAtEachCell() {
        for (int cell = 0; cell < 6; cell++) {
            ChargeStages x = new ChargeStages();
            x.battery(6);
            Check.read(x, "v3100:0");
            x.setCharge(cell, 75);
            x.start();
            Check.due("90 less of room at " + cell, x.current(), 109);
        }
    }

    // "If that is the least current or less, the stage ends as the tick begins"
    private static void heldEndsAtTheLeastOrLess() {
        Check.due("one more than the least", stageBehindOneTick(Check.charging("v3100:1008;r9")), 0);
        Check.due("the least", stageBehindOneTick(Check.charging("v3100:1009;r9")), 1);
        Check.due("less than the least", stageBehindOneTick(Check.charging("v3100:1010;r9")), 1);
        Check.due("2000 of 1999", stageBehindOneTick(Check.charging("v4500:1999;r9")), 0);
        Check.due("2000 of 2000", stageBehindOneTick(Check.charging("v4500:2000;r9")), 1);
        ChargeStages x = Check.charging("v3600:8;r9");
        x.setCharge(0, 500);
        Check.due("9 of 8", stageBehindOneTick(x), 0);
        ChargeStages y = Check.charging("v3600:9;r9");
        y.setCharge(0, 500);
        Check.due("9 of 9", stageBehindOneTick(y), 1);
    }

    // "and nothing is charged in this tick (also by the next stage, which begins in it)"
    private static void heldEndsWithNothingCharged() {
        ChargeStages x = Check.charging("v3000:2000;c500:4500");
        Check.due("the current", x.current(), 0);
        x.pass(1);
        due("the next one begins", x, 1, 1, 0);
        Check.dueEvent("in this tick", x, 0, 0, 0, 1);
        Check.dueCells("nothing came in", x, 3, 0, 0, 0);
        x.pass(1);
        Check.dueCells("in the next tick", x, 3, 500, 500, 500);
        ChargeStages last = Check.charging("v3000:2000");
        Check.due("done as the last one ends", last.pass(1), 2);
        Check.dueEvent("done in this tick", last, 0, 1, 0, 0);
        Check.dueCells("nothing came in", last, 3, 0, 0, 0);
        ChargeStages bled = Check.charging("v3000:2000;r9");
        bled.set(8, 9);
        bled.setCharge(2, 500);
        bled.pass(1);
        Check.due("but it is bled", bled.cell(2, 6), 9);
        Check.due("and the tick is counted", bled.count(0), 1);
    }

    // "(also by the next stage, which begins in it)": it can't end in it, too
    private static void nextStageBeginsInThatTickAlone() {
        ChargeStages x = Check.charging("v3000:2000;v3000:2000;c100:3000;r1;v3000:2000");
        for (int stage = 1; stage < 5; stage++) {
            x.pass(1);
            due("one stage in a tick", x, 1, stage, 0);
            Check.dueEvent("one event in a tick", x, 0, 0, stage - 1, stage);
        }
        Check.due("the last one", x.pass(1), 2);
        Check.due("five ticks", x.count(0), 5);
    }

    // "2: rest: a number of ticks (1 to 999). .. The stage ends when it has lasted so many ticks."
    private static void restLastsSoManyTicks() {
        ChargeStages one = Check.charging("r1");
        Check.due("1", one.pass(1), 2);
        ChargeStages two = Check.charging("r2");
        Check.due("1 of 2", two.pass(1), 1);
        Check.due("2 of 2", two.pass(1), 2);
        ChargeStages most = Check.charging("r999");
        for (int passed = 0; passed < 4; passed++) {
            most.pass(200);
        }
        Check.due("998 of 999", most.pass(198), 1);
        Check.due("lasted", most.count(5), 998);
        Check.due("999 of 999", most.pass(1), 2);
        Check.due("no ticks", Check.read(new ChargeStages(), "r0"), B);
        Check.due("too many", Check.read(new ChargeStages(), "r1000"), B);
    }

    // "In a tick, the current is 0."
    private static void restChargesNothing() {
        ChargeStages x = Check.charging("c5:3000;r9");
        x.pass(1);
        Check.due("the current", x.current(), 0);
        x.pass(3);
        Check.dueCells("came in ahead of it", x, 3, 5, 5, 5);
        Check.dueCells("stored ahead of it", x, 0, 4, 4, 4);
        Check.dueCells("the rests of cells stay", x, 2, 50, 50, 50);
    }

    // "The limit of now is the limit less compensation * (temperature - 25)."
    private static void limitOfNowGoesWithTheTemperature() {
        ChargeStages x = new ChargeStages();
        Check.read(x, "c1:3000;v4500:0;r1");
        int[] compensations = {3, 3, 3, 3, 3, 0, 0, 1, 10, 10};
        int[] temperatures = {25, 24, 26, -30, 80, -30, 80, 24, -30, 80};
        int[] more = {0, 3, -3, 165, -165, 0, 0, 1, 550, -550};
        for (int i = 0; i < more.length; i++) {
            x.set(4, compensations[i]);
            x.set(3, temperatures[i]);
            Check.due("of a constant current, " + i, x.stage(0, 4), 3000 + more[i]);
            Check.due("of a held voltage, " + i, x.stage(1, 4), 4500 + more[i]);
            Check.due("of a rest, " + i, x.stage(2, 4), N);
            Check.due("as it is told, " + i, x.stage(0, 2), 3000);
        }
    }

    // "is the limit of now or more", "more than the limit of now"
    private static void limitOfNowEndsStages() {
        ChargeStages cold = Check.charging("c100:3118;r9");
        cold.set(3, 24);
        Check.due("3 more of room", stageBehindOneTick(cold), 0);
        ChargeStages warm = Check.charging("c100:3121;r9");
        warm.set(3, 26);
        Check.due("3 less of room", stageBehindOneTick(warm), 1);
        ChargeStages held = Check.charging("v3100:0");
        held.set(3, 26);
        Check.due("held with 3 less", held.current(), 979);
        held.set(3, 24);
        Check.due("held with 3 more", held.current(), 1039);
        held.set(4, 10);
        held.set(3, 35);
        Check.due("held with none left", held.current(), 9);
        held.set(3, 36);
        Check.due("held below all cells", held.current(), 0);
    }

    // "A stage has a timer (0 for none ..)"
    private static void timerOfZeroIsNone() {
        ChargeStages x = Check.charging("c1:4500");
        Check.due("told as 0", x.stage(0, 3), 0);
        for (int passed = 0; passed < 6; passed++) {
            Check.due("no fault", x.pass(200), 1);
        }
        Check.due("lasted for more than any timer", x.count(5), 1200);
        Check.due("a 0 is not typed", Check.read(new ChargeStages(), "r1/0"), -103);
    }

    // "(.. or 1 to 999 ticks)"
    private static void timerFrom1To999() {
        ChargeStages one = Check.charging("r2/1");
        Check.due("1", one.pass(1), 3);
        ChargeStages most = Check.charging("c1:4500/999");
        for (int passed = 0; passed < 4; passed++) {
            most.pass(200);
        }
        Check.due("998 of 999", most.pass(198), 1);
        Check.due("999 of 999", most.pass(1), 3);
        Check.due("too many", Check.read(new ChargeStages(), "r1/1000"), B);
        Check.due("the greatest number", Check.read(new ChargeStages(), "r1/9999"), B);
    }

    // Promise 7: "Starts charging, with the stage 0."; "Returns the state that it was in"
    private static void startsWithStageZero() {
        ChargeStages x = new ChargeStages();
        Check.read(x, "r2;r3/1");
        x.pass(4);
        Check.due("of an idle one", x.start(), 0);
        due("from idle", x, 1, 0, 0);
        Check.dueEvent("with the tick as it is", x, 0, 0, 4, 0);
        x.pass(3);
        Check.due("of one at fault", x.start(), 3);
        due("from fault", x, 1, 0, 0);
        x.pass(1);
        x.stop();
        x.start();
        due("it has not lasted then", x, 1, 0, 0);
        x.stop();
        Check.read(x, "r1");
        x.start();
        x.pass(1);
        Check.due("of a done one", x.start(), 2);
        due("from done", x, 1, 0, 0);
    }

    // Promise 7: "NOT_POSSIBLE if it is charging, or there is no stage"
    private static void startIsNotPossibleWhenCharging() {
        ChargeStages x = new ChargeStages();
        Check.due("no stage", x.start(), P);
        Check.read(x, "r5");
        x.start();
        Check.due("charging", x.start(), P);
        x.set(3, -1);
        Check.due("too cold", x.start(), P);
        x.set(3, 46);
        Check.due("too hot", x.start(), P);
        x.stop();
        Check.due("too hot, but idle", x.start(), 0);
        x.undo();
        x.undo();
        Check.due("charging again", x.start(), P);
    }

    // Promise 8: "Returns the state that it was in; NONE if it is idle already."
    private static void stopTellsTheState() {
        ChargeStages x = new ChargeStages();
        Check.due("a new one", x.stop(), N);
        Check.read(x, "r2/1");
        x.start();
        Check.due("charging", x.stop(), 1);
        Check.due("stopped", x.stop(), N);
        x.start();
        x.set(3, 80);
        Check.due("paused", x.stop(), 1);
        x.set(3, 25);
        x.start();
        x.pass(1);
        Check.due("at fault", x.stop(), 3);
        Check.read(x, "r1");
        x.start();
        x.pass(1);
        Check.due("done", x.stop(), 2);
        Check.due("not done any more", x.doneIn(), N);
    }

    // Promise 9: "ticks: 1 to 200"; "Returns the state then"
    private static void passes1To200Ticks() {
        ChargeStages x = Check.charging("r200;r1/1;r3/2");
        for (int ticks : new int[] {0, -1, 201, MIN, MAX}) {
            Check.due("pass " + ticks, x.pass(ticks), B);
        }
        Check.due("199", x.pass(199), 1);
        due("behind 199", x, 1, 0, 199);
        Check.due("1", x.pass(1), 1);
        due("behind 200", x, 1, 1, 0);
        Check.due("200 through all", x.pass(200), 3);
        Check.due("all ticks are counted", x.count(0), 400);
        Check.due("the fault was in the third", x.event(0, 1), 202);
        ChargeStages done = Check.charging("r1");
        Check.due("200 through being done", done.pass(200), 2);
        Check.due("once", done.count(10), 1);
        Check.due("all ticks", done.count(0), 200);
    }

    // Promise 9: "FULL if the tick would become more than 99999"
    private static void passesNotAbove99999() {
        // These are just the 512 calls of an object.
        ChargeStages x = new ChargeStages();
        for (char character : "v4500:0".toCharArray()) {
            x.type(character);
        }
        x.readProfile();
        x.start();
        x.set(1, 0);
        for (int passed = 0; passed < 499; passed++) {
            x.pass(200);
        }
        Check.due("to 99999", x.pass(199), 1);
        Check.due("to 100000", x.pass(1), F);
        Check.due("what came in is not too large", x.cell(0, 3), 199998000);
    }

    // Promise 17: "(0 as the second one of a rest)", "(NONE of a rest)"
    private static void stageTellsEachNumber() {
        ChargeStages x = new ChargeStages();
        Check.read(x, "c2000:4500/999;v3000:0/1;r999");
        int[][] want = {{0, 2000, 4500, 999, 4500}, {1, 3000, 0, 1, 3000}, {2, 999, 0, 0, N}};
        for (int stage = 0; stage < 3; stage++) {
            for (int what = 0; what <= 4; what++) {
                Check.due("stage " + stage + " " + what, x.stage(stage, what), want[stage][what]);
            }
            for (int what : new int[] {-1, 5, MIN, MAX}) {
                Check.due("stage " + stage + " " + what, x.stage(stage, what), B);
            }
        }
        Check.due("the stage goes ahead of what", x.stage(3, 5), U);
        Check.read(x, "r5/7");
        Check.due("nothing is left of another", x.stage(0, 2), 0);
        Check.due("another timer", x.stage(0, 3), 7);
        Check.due("no more", x.stage(1, 0), U);
        Check.read(x, "r5");
        Check.due("no timer any more", x.stage(0, 3), 0);
    }

    // Promise 19: "(0 if the stage ends as it begins, if it is paused, or not charging)"
    private static void currentOfTheNextTick() {
        ChargeStages x = new ChargeStages();
        Check.read(x, "c60:3000;v3100:0;r1");
        Check.due("idle", x.current(), 0);
        x.start();
        Check.due("charging", x.current(), 60);
        x.set(3, 46);
        Check.due("too hot", x.current(), 0);
        x.set(3, 45);
        Check.due("at the highest", x.current(), 60);
        x.set(3, -1);
        Check.due("too cold", x.current(), 0);
        x.set(3, 0);
        Check.due("at the lowest", x.current(), 60);
        x.set(3, 25);
        x.pass(1);
        int told = x.current();
        x.pass(1);
        Check.due("what came in is what was told", x.cell(0, 3), 60 + told);
        x.setCharge(1, 1000);
        Check.due("a held voltage that ends", x.current(), 0);
        x.pass(1);
        Check.due("a rest", x.current(), 0);
        x.pass(1);
        Check.due("done", x.current(), 0);
        Check.read(x, "c60:4500/1");
        x.start();
        x.pass(1);
        Check.due("at fault", x.count(3), 3);
        Check.due("at fault", x.current(), 0);
    }
}
