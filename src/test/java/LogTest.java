/** Promises 23 and 24: event, count. */
public final class LogTest {
    private static final int B = ChargeStages.BAD_VALUE;
    private static final int N = ChargeStages.NONE;

    public static void main(String[] args) {
        looksAtItsArguments();
        logsStages();
        keepsTenEvents();
        logsPauses();
        logsPausesBehindAStart();
        counts();
        countsLeastAndGreatest();
        Check.finish();
    }

    private static void looksAtItsArguments() {
        ChargeStages x = Check.charging("r1");
        Check.due("event(-1, 0)", x.event(-1, 0), B);
        Check.due("event(0, -1)", x.event(0, -1), B);
        Check.due("event(0, 3)", x.event(0, 3), B);
        Check.due("event(5, 3)", x.event(5, 3), B);
        Check.due("event(1, 0)", x.event(1, 0), N);
        Check.due("event(greatest, 0)", x.event(Integer.MAX_VALUE, 0), N);
        Check.due("event(least, 0)", x.event(Integer.MIN_VALUE, 0), B);
        Check.due("count(-1)", x.count(-1), B);
        Check.due("count(14)", x.count(14), B);
        Check.due("count(greatest)", x.count(Integer.MAX_VALUE), B);
    }

    private static void logsStages() {
        ChargeStages x = new ChargeStages();
        Check.read(x, "r2;c100:3000;r3/2");
        x.pass(5);
        x.start();
        Check.dueEvent("start()", x, 0, 0, 5, 0);
        x.pass(2);
        Check.dueEvent("behind the rest", x, 0, 0, 6, 1);
        x.pass(1);
        Check.dueEvent("behind the current", x, 0, 0, 7, 2);
        x.pass(2);
        Check.dueEvent("the fault", x, 0, 2, 9, 2);
        Check.dueEvent("the one before", x, 1, 0, 7, 2);
        Check.dueEvent("the one before that", x, 2, 0, 6, 1);
        Check.dueEvent("the first one", x, 3, 0, 5, 0);
        Check.due("no more", x.event(4, 0), N);
        ChargeStages y = Check.charging("r1;r1");
        y.pass(9);
        Check.dueEvent("done, with the last stage", y, 0, 1, 1, 1);
        y.stop();
        y.battery(1);
        Check.dueEvent("stop() and battery() are no events", y, 0, 1, 1, 1);
    }

    private static void keepsTenEvents() {
        ChargeStages x = new ChargeStages();
        Check.read(x, "r1;r1;r1;r1;r1");
        x.start();
        x.pass(5);
        Check.due("six events", x.event(6, 0), N);
        x.start();
        x.pass(3);
        Check.dueEvent("the tenth", x, 9, 0, 0, 0);
        x.pass(1);
        Check.dueEvent("the oldest one is dropped", x, 9, 0, 0, 1);
        Check.due("no eleventh", x.event(10, 0), N);
        x.pass(1);
        Check.dueEvent("the latest", x, 0, 1, 9, 4);
        Check.dueEvent("six back", x, 6, 1, 4, 4);
        Check.dueEvent("the oldest", x, 9, 0, 1, 2);
    }

    private static void logsPauses() {
        ChargeStages x = Check.charging("r2;r9");
        x.pass(2);
        x.set(3, 60);
        Check.dueEvent("no event ahead of the tick", x, 0, 0, 1, 1);
        x.pass(3);
        Check.dueEvent("a pause", x, 0, 3, 2, 1);
        Check.dueEvent("one event alone", x, 1, 0, 1, 1);
        x.set(3, 25);
        x.set(3, -9);
        x.pass(1);
        Check.dueEvent("no tick between", x, 1, 0, 1, 1);
        x.set(3, 25);
        x.pass(1);
        Check.dueEvent("no event as it ends", x, 0, 3, 2, 1);
        x.set(3, -9);
        x.pass(1);
        Check.dueEvent("another pause", x, 0, 3, 7, 1);
        Check.due("paused ticks", x.count(6), 5);
    }

    private static void logsPausesBehindAStart() {
        ChargeStages x = Check.charging("r9");
        x.set(3, 60);
        x.pass(1);
        x.stop();
        x.start();
        x.pass(2);
        Check.dueEvent("a pause behind a start", x, 0, 3, 1, 0);
        Check.dueEvent("the start", x, 1, 0, 1, 0);
        Check.dueEvent("the first pause", x, 2, 3, 0, 0);
        x.stop();
        x.pass(1);
        Check.dueEvent("no pause of an idle one", x, 0, 3, 1, 0);
        ChargeStages y = new ChargeStages();
        Check.read(y, "r9");
        y.set(3, 60);
        y.start();
        y.pass(1);
        Check.dueEvent("a pause at the first tick", y, 0, 3, 0, 0);
    }

    private static void counts() {
        ChargeStages x = new ChargeStages();
        x.battery(5);
        Check.read(x, "r1;r3/2;r9");
        x.start();
        x.pass(2);
        int[] want = {2, 5, 3, 1, 1, 1, 0, 0, 0, 0, 0, 0, 4, 10};
        for (int what = 0; what < want.length; what++) {
            Check.due("count(" + what + ")", x.count(what), want[what]);
        }
        x.pass(1);
        Check.due("at fault once", x.count(11), 1);
        x.start();
        x.pass(3);
        Check.due("at fault twice", x.count(11), 2);
        Check.due("never done", x.count(10), 0);
        Check.read(x, "r1");
        x.start();
        x.pass(1);
        x.start();
        x.pass(1);
        Check.due("done twice", x.count(10), 2);
        Check.due("the stage of a done one", x.count(4), N);
        Check.due("it has lasted", x.count(5), 0);
        x.battery(1);
        Check.due("done twice still", x.count(10), 2);
        Check.due("at fault twice still", x.count(11), 2);
        x.set(3, 80);
        Check.due("not paused when idle", x.count(9), 0);
        x.start();
        Check.due("paused", x.count(9), 1);
        x.pass(4);
        Check.due("lasted in a pause", x.count(5), 0);
        Check.due("the stage in a pause", x.count(4), 0);
        Check.due("paused ticks", x.count(6), 4);
    }

    private static void countsLeastAndGreatest() {
        ChargeStages x = new ChargeStages();
        x.setCharge(0, 300);
        x.setCharge(1, 200);
        Check.due("the least is the last", x.count(7), 0);
        x.setCharge(2, 900);
        Check.due("the least", x.count(7), 200);
        Check.due("the greatest", x.count(8), 900);
        x.setCharge(0, 100);
        Check.due("the least is the first", x.count(7), 100);
        x.setCharge(1, 1000);
        Check.due("the greatest is between", x.count(8), 1000);
        x.battery(6);
        x.setCharge(5, 1);
        Check.due("of six: the greatest", x.count(8), 1);
        Check.due("of six: the least", x.count(7), 0);
    }
}
