/** Promises 20 to 22: doneIn, chargeIn, warmest. */
public final class ForecastTest {
    private static final int U = ChargeStages.UNKNOWN;
    private static final int B = ChargeStages.BAD_VALUE;
    private static final int P = ChargeStages.NOT_POSSIBLE;
    private static final int N = ChargeStages.NONE;

    public static void main(String[] args) {
        tellsWhenItIsDone();
        tellsUpTo2000Ticks();
        doneInIsWhatHappens();
        tellsCharges();
        findsTheWarmest();
        warmestIsWithin500Ticks();
        forecastsChangeNothing();
        Check.finish();
    }

    private static void tellsWhenItIsDone() {
        ChargeStages x = new ChargeStages();
        Check.due("doneIn() of a new one", x.doneIn(), N);
        Check.read(x, "r3;r4");
        Check.due("doneIn() of an idle one", x.doneIn(), N);
        x.start();
        Check.due("doneIn()", x.doneIn(), 7);
        x.pass(6);
        Check.due("doneIn() of the last tick", x.doneIn(), 1);
        x.set(3, 46);
        Check.due("doneIn() in a pause", x.doneIn(), N);
        x.set(3, 45);
        x.pass(1);
        Check.due("doneIn() when done", x.doneIn(), 0);
        x.set(3, 46);
        Check.due("doneIn() when done and hot", x.doneIn(), 0);
        ChargeStages fault = Check.charging("r1;r3/2");
        Check.due("doneIn() ahead of a fault", fault.doneIn(), N);
        fault.pass(3);
        Check.due("doneIn() at fault", fault.doneIn(), N);
        Check.due("doneIn() of a stage that ends as it begins",
                Check.charging("v3000:2000").doneIn(), 1);
    }

    private static void tellsUpTo2000Ticks() {
        Check.due("2000 ticks", Check.charging("r999;r999;r2").doneIn(), 2000);
        Check.due("2001 ticks", Check.charging("r999;r999;r3").doneIn(), N);
        ChargeStages never = Check.charging("c1:4500");
        never.set(1, 0);
        Check.due("never", never.doneIn(), N);
    }

    private static void doneInIsWhatHappens() {
        ChargeStages x = Check.charging("c300:4000;r5;v4150:60/40;c20:4150/30");
        x.set(8, 3);
        x.setCharge(1, 150);
        int told = x.doneIn();
        Check.holds("it is done some time", told > 5);
        x.pass(told - 1);
        Check.due("one tick ahead", x.count(3), 1);
        Check.due("told one tick ahead", x.doneIn(), 1);
        x.pass(1);
        Check.due("done", x.count(3), 2);
    }

    private static void tellsCharges() {
        ChargeStages x = Check.charging("c100:3400;r2;c10:4500/3");
        x.setCharge(1, 50);
        Check.due("chargeIn(-1, 0)", x.chargeIn(-1, 0), U);
        Check.due("chargeIn(3, 0)", x.chargeIn(3, 0), U);
        Check.due("chargeIn(3, -1)", x.chargeIn(3, -1), U);
        Check.due("chargeIn(0, -1)", x.chargeIn(0, -1), B);
        Check.due("chargeIn(0, 201)", x.chargeIn(0, 201), B);
        Check.due("chargeIn(1, 0)", x.chargeIn(1, 0), 50);
        Check.due("chargeIn(0, 1)", x.chargeIn(0, 1), 90);
        Check.due("chargeIn(1, 2)", x.chargeIn(1, 2), 230);
        Check.due("chargeIn(1, 3)", x.chargeIn(1, 3), 320);
        Check.due("chargeIn(1, 4), to the limit", x.chargeIn(1, 4), 410);
        Check.due("chargeIn(1, 6), in the rest", x.chargeIn(1, 6), 410);
        Check.due("chargeIn(1, 7), of the last", x.chargeIn(1, 7), 419);
        Check.due("chargeIn(1, 200), behind a fault", x.chargeIn(1, 200), 437);
        x.set(3, 60);
        Check.due("chargeIn(1, 200) in a pause", x.chargeIn(1, 200), 50);
        x.stop();
        x.set(8, 1);
        x.set(7, 0);
        Check.due("chargeIn(1, 20) of an idle one that is bled", x.chargeIn(1, 20), 30);
        Check.due("chargeIn(1, 200) of it", x.chargeIn(1, 200), 0);
        Check.due("chargeIn(0, 200) of it", x.chargeIn(0, 200), 0);
    }

    private static void findsTheWarmest() {
        ChargeStages x = new ChargeStages();
        Check.due("warmest() of an idle one", x.warmest(), P);
        Check.read(x, "r5");
        x.start();
        Check.due("warmest() of a rest", x.warmest(), 1045);
        x.set(6, 80);
        Check.due("warmest() of 80", x.warmest(), 1080);
        x.set(3, -10);
        Check.due("warmest() in a pause", x.warmest(), 1080);
        x.set(3, 25);
        x.pass(5);
        Check.due("warmest() when done", x.warmest(), P);
        ChargeStages fault = Check.charging("r2/1");
        Check.due("warmest() ahead of a fault", fault.warmest(), N);
        fault.pass(1);
        Check.due("warmest() at fault", fault.warmest(), P);
        warmestBetween();
    }

    private static void warmestBetween() {
        // Without a resistance a held voltage takes 2000 up to its limit, and runs into its timer; it
        // ends as it begins just if the limit of now is below the base voltage.
        ChargeStages cold = Check.charging("v3160:10/1");
        cold.set(4, 10);
        cold.set(1, 0);
        cold.setCharge(0, 100);
        cold.set(5, -30);
        Check.due("the base voltage", cold.voltage(0), 3120);
        cold.set(6, 29);
        Check.due("a limit of 3120 at 29 is not below", cold.warmest(), N);
        cold.set(6, 40);
        Check.due("a limit below at 40", cold.warmest(), 1040);
        // 90 are stored, which makes 3118 at 100: it is in time if 3148 - 3 * (t - 25) is not above.
        ChargeStages warm = Check.charging("c100:3148/1");
        Check.due("done at the highest", warm.warmest(), 1045);
        warm.set(6, 35);
        Check.due("done at 35", warm.warmest(), 1035);
        warm.set(6, 34);
        Check.due("not done at 34", warm.warmest(), N);
        warmestBelowTheHighest();
    }

    private static void warmestBelowTheHighest() {
        // The first stage ends at 3118 from 53 on, below that at 3226. The second one is in time if
        // its limit of now is not above 3216 (from 27 on) then, or 3108 (from 63 on).
        ChargeStages x = Check.charging("c100:3200;c1:3220/1");
        x.set(6, 80);
        Check.due("done at 80", x.warmest(), 1080);
        x.set(6, 63);
        Check.due("done at 63", x.warmest(), 1063);
        x.set(6, 62);
        Check.due("not done from 53 to 62", x.warmest(), 1052);
        x.set(5, 53);
        Check.due("not done at all", x.warmest(), N);
        x.set(5, 52);
        Check.due("done at the lowest", x.warmest(), 1052);
        x.set(5, 20);
        x.set(6, 26);
        Check.due("not done up to 26", x.warmest(), N);
        ChargeStages one = Check.charging("r1");
        one.set(6, 0);
        one.set(3, 80);
        Check.due("one temperature alone", one.warmest(), 1000);
        one.set(5, -30);
        one.set(6, -30);
        Check.due("a negative one", one.warmest(), 970);
    }

    private static void warmestIsWithin500Ticks() {
        Check.due("500 ticks", Check.charging("r499;r1").warmest(), 1045);
        Check.due("501 ticks", Check.charging("r499;r2").warmest(), N);
    }

    private static void forecastsChangeNothing() {
        ChargeStages x = Check.charging("c100:3400;r2;v4000:10;c10:4500/3");
        x.pass(2);
        int[] before = StateOf.row(x);
        int states = x.count(12);
        x.doneIn();
        x.chargeIn(0, 200);
        x.warmest();
        x.current();
        StateOf.same("forecasts", x, before);
        Check.due("no act", x.count(12), states);
    }
}
