/** The boundaries that the promises 20 to 22 name, a test for each sentence, which stands above it. */
public final class ForecastBoundsTest {
    private static final int U = ChargeStages.UNKNOWN;
    private static final int B = ChargeStages.BAD_VALUE;
    private static final int P = ChargeStages.NOT_POSSIBLE;
    private static final int N = ChargeStages.NONE;
    private static final int MIN = Integer.MIN_VALUE;
    private static final int MAX = Integer.MAX_VALUE;

    public static void main(String[] args) {
        doneInUpTo2000();
        doneInOneTick();
        doneInZeroIfItIsDone();
        doneInNoneIfItIsNotDoneThen();
        doneInIfNothingIsChanged();
        chargeInZeroTicks();
        chargeInUpTo200();
        chargeInOfACell();
        chargeInWhateverTheStateIs();
        chargeInIsWhatPassMakes();
        warmestWhenCharging();
        warmestWithin500Ticks();
        warmestFromTheLowestToTheHighest();
        warmestOfOneTemperature();
        warmestIsTheHighestOfSeveral();
        warmestOfNone();
        warmestPlus1000();
        warmestFromNowOn();
        Check.finish();
    }

    // Promise 20: "Returns the ticks, up to 2000"
    private static void doneInUpTo2000() {
        Check.due("1999", Check.charging("r999;r999;r1").doneIn(), 1999);
        ChargeStages x = Check.charging("r999;r999;r3");
        Check.due("2001", x.doneIn(), N);
        x.pass(1);
        Check.due("2000", x.doneIn(), 2000);
        x.pass(1);
        Check.due("1999 left", x.doneIn(), 1999);
    }

    // Promise 20: "in how many ticks the charger is done"
    private static void doneInOneTick() {
        Check.due("a rest of 1", Check.charging("r1").doneIn(), 1);
        Check.due("a current at its limit", Check.charging("c100:3118").doneIn(), 1);
        Check.due("a current below it", Check.charging("c100:3119").doneIn(), 2);
        Check.due("a held voltage that ends as it begins", Check.charging("v3000:9").doneIn(), 1);
        Check.due("one that does not", Check.charging("v3000:8/9").doneIn(), 2);
        ChargeStages x = Check.charging("r2;r3");
        x.pass(4);
        Check.due("the last tick", x.doneIn(), 1);
        Check.due("it is done then", x.pass(1), 2);
    }

    // Promise 20: "0 if it is done"
    private static void doneInZeroIfItIsDone() {
        ChargeStages x = Check.charging("r1");
        x.pass(1);
        Check.due("done", x.doneIn(), 0);
        x.set(3, 80);
        Check.due("done and too hot", x.doneIn(), 0);
        x.pass(200);
        Check.due("done for long", x.doneIn(), 0);
        Check.read(x, "r5");
        Check.due("done, with another profile", x.doneIn(), 0);
        x.stop();
        Check.due("idle then", x.doneIn(), N);
    }

    // Promise 20: "NONE if it is not done then"
    private static void doneInNoneIfItIsNotDoneThen() {
        ChargeStages x = new ChargeStages();
        Check.due("no profile", x.doneIn(), N);
        Check.read(x, "r2/1");
        Check.due("idle", x.doneIn(), N);
        x.start();
        Check.due("ahead of a fault", x.doneIn(), N);
        x.pass(1);
        Check.due("at fault", x.doneIn(), N);
        Check.due("never", Check.charging("c1:4500").doneIn(), N);
        ChargeStages paused = Check.charging("r1");
        paused.set(3, 46);
        Check.due("paused", paused.doneIn(), N);
        paused.set(3, 45);
        Check.due("not paused", paused.doneIn(), 1);
        Check.due("a fault at the end", Check.charging("r1;r2/1").doneIn(), N);
        Check.due("an end at the timer", Check.charging("r1;r2/2").doneIn(), 3);
    }

    // Promise 20: "if nothing is changed": cells are bled meanwhile
    private static void doneInIfNothingIsChanged() {
        ChargeStages x = Check.charging("c100:3200;v3200:400;r4");
        x.set(8, 50);
        x.set(7, 0);
        x.setCharge(1, 60);
        int told = x.doneIn();
        Check.holds("it is done some time", told > 4);
        for (int left = told; left > 0; left--) {
            Check.due("told with " + left + " left", x.doneIn(), left);
            Check.due("charging with " + left + " left", x.count(3), 1);
            x.pass(1);
        }
        Check.due("done", x.count(3), 2);
    }

    // Promise 21: "ticks: 0 to 200"; "Tells the charge of a cell behind some ticks"
    private static void chargeInZeroTicks() {
        ChargeStages x = Check.charging("c100:4500");
        x.set(8, 50);
        x.setCharge(1, 500);
        Check.due("the charge now", x.chargeIn(1, 0), 500);
        Check.due("behind one tick", x.chargeIn(1, 1), 540);
        Check.due("-1", x.chargeIn(1, -1), B);
        Check.due("the least", x.chargeIn(1, MIN), B);
    }

    // Promise 21: "ticks: 0 to 200"
    private static void chargeInUpTo200() {
        ChargeStages x = Check.charging("c1:4500");
        Check.due("199", x.chargeIn(0, 199), 179);
        Check.due("200", x.chargeIn(0, 200), 180);
        Check.due("201", x.chargeIn(0, 201), B);
        Check.due("the greatest", x.chargeIn(0, MAX), B);
    }

    // Promise 21: "Returns the charge; UNKNOWN; BAD_VALUE."
    private static void chargeInOfACell() {
        ChargeStages x = new ChargeStages();
        x.battery(6);
        for (int cell = 0; cell < 6; cell++) {
            x.setCharge(cell, 10 * cell);
        }
        for (int cell = 0; cell < 6; cell++) {
            Check.due("of " + cell, x.chargeIn(cell, 200), 10 * cell);
        }
        for (int cell : new int[] {-1, 6, MIN, MAX}) {
            Check.due("of " + cell, x.chargeIn(cell, 0), U);
            Check.due("the cell ahead of the ticks, " + cell, x.chargeIn(cell, -1), U);
        }
    }

    // Promise 21: "if nothing is changed", in each state
    private static void chargeInWhateverTheStateIs() {
        ChargeStages x = new ChargeStages();
        x.set(8, 5);
        x.setCharge(1, 300);
        Check.due("idle", x.chargeIn(1, 10), 250);
        Check.read(x, "r2/1");
        x.start();
        Check.due("through a fault", x.chargeIn(1, 10), 250);
        x.set(3, 80);
        Check.due("paused", x.chargeIn(1, 10), 250);
        x.set(3, 25);
        x.pass(1);
        Check.due("at fault", x.chargeIn(1, 10), 245);
        Check.read(x, "r1");
        x.start();
        x.pass(1);
        Check.due("done", x.chargeIn(1, 10), 240);
    }

    // Promise 21, beside what pass(ticks) makes
    private static void chargeInIsWhatPassMakes() {
        for (int ticks : new int[] {1, 2, 7, 50, 199, 200}) {
            ChargeStages x = Check.charging("c90:3700/40;r3;v3900:30/150;c7:4100");
            x.set(8, 2);
            x.setCharge(2, 77);
            int[] told = {x.chargeIn(0, ticks), x.chargeIn(1, ticks), x.chargeIn(2, ticks)};
            x.pass(ticks);
            Check.dueCells("behind " + ticks, x, 0, told);
        }
    }

    // Promise 22: "NOT_POSSIBLE if it is not charging"
    private static void warmestWhenCharging() {
        ChargeStages x = new ChargeStages();
        Check.due("no profile", x.warmest(), P);
        Check.read(x, "r1");
        Check.due("idle", x.warmest(), P);
        x.start();
        Check.due("charging", x.warmest(), 1045);
        x.set(3, 80);
        Check.due("paused", x.warmest(), 1045);
        x.set(3, 25);
        x.pass(1);
        Check.due("done", x.warmest(), P);
        ChargeStages fault = Check.charging("r2/1");
        fault.pass(1);
        Check.due("at fault", fault.warmest(), P);
    }

    // Promise 22: "done within 500 ticks"
    private static void warmestWithin500Ticks() {
        Check.due("500", Check.charging("r500").warmest(), 1045);
        ChargeStages x = Check.charging("r501");
        Check.due("501", x.warmest(), N);
        x.pass(1);
        Check.due("500 left", x.warmest(), 1045);
    }

    // Promise 22: "from the lowest to the highest one"
    private static void warmestFromTheLowestToTheHighest() {
        // One tick makes 3118: in time from 35 on, where the limit of now is 3118.
        ChargeStages x = Check.charging("c100:3148/1");
        Check.due("the highest one is in time", x.warmest(), 1045);
        x.set(6, 35);
        Check.due("35, the highest", x.warmest(), 1035);
        x.set(6, 34);
        Check.due("34, the highest, is not", x.warmest(), N);
        x.set(6, 80);
        Check.due("80, the highest", x.warmest(), 1080);
        x.set(5, 80);
        Check.due("80, the lowest, too", x.warmest(), 1080);
    }

    // Promise 22: "from the lowest to the highest one", where both are one
    private static void warmestOfOneTemperature() {
        ChargeStages x = Check.charging("c100:3148/1");
        x.set(6, 35);
        x.set(5, 35);
        Check.due("35 alone", x.warmest(), 1035);
        x.set(5, 34);
        x.set(6, 34);
        Check.due("34 alone", x.warmest(), N);
    }

    // Promise 22: "Finds the highest temperature", where some below it are not in time
    private static void warmestIsTheHighestOfSeveral() {
        // From 30 on the first stage ends at 3118, with cells of 3108; below 30 one tick later, with
        // 3216. The second one is in its one tick if its limit of now is not above that: from 65 on
        // for 3108, and from 29 on for 3216.
        ChargeStages x = Check.charging("c100:3133;c1:3226/1");
        int[] highest = {80, 66, 65, 64, 63, 31, 30, 29, 28, 0};
        int[] want = {1080, 1066, 1065, 1029, 1029, 1029, 1029, 1029, N, N};
        for (int i = 0; i < highest.length; i++) {
            x.set(6, highest[i]);
            Check.due("up to " + highest[i], x.warmest(), want[i]);
        }
        x.set(6, 64);
        x.set(5, 29);
        Check.due("from 29 to 64", x.warmest(), 1029);
        x.set(5, 30);
        Check.due("from 30 to 64", x.warmest(), N);
        int[] tried = {28, 29, 30, 64, 65};
        int[] ticks = {N, 3, N, N, 2};
        x.set(6, 80);
        x.set(5, 0);
        for (int i = 0; i < tried.length; i++) {
            x.set(3, tried[i]);
            Check.due("as it is at " + tried[i], x.doneIn(), ticks[i]);
        }
    }

    // Promise 22: "NONE if there is none"
    private static void warmestOfNone() {
        Check.due("a fault at each", Check.charging("r2/1").warmest(), N);
        Check.due("too long at each", Check.charging("r999").warmest(), N);
        ChargeStages x = Check.charging("c1:4500");
        x.set(1, 0);
        Check.due("never at any", x.warmest(), N);
    }

    // Promise 22: "Returns the temperature plus 1000", a negative one, too
    private static void warmestPlus1000() {
        ChargeStages x = Check.charging("r1");
        x.set(5, -30);
        x.set(6, -1);
        Check.due("-1", x.warmest(), 999);
        x.set(6, -30);
        Check.due("-30", x.warmest(), 970);
        x.set(6, 0);
        Check.due("0", x.warmest(), 1000);
    }

    // Promise 22: "if the temperature was this from now on": not the one that is
    private static void warmestFromNowOn() {
        ChargeStages x = Check.charging("c100:3148/1");
        for (int temperature : new int[] {-30, -1, 0, 25, 45, 46, 80}) {
            x.set(3, temperature);
            Check.due("at " + temperature, x.warmest(), 1045);
            Check.due("it stays " + temperature, x.setting(3), temperature + 1000);
        }
        x.set(3, 25);
        Check.due("a fault, as it is", x.pass(1), 3);
    }
}
