/**
 * The boundaries that LOG, HISTORY and the promises 12 to 14, 23 and 24 name, a test for each
 * sentence, which stands above it.
 */
public final class HistoryBoundsTest {
    private static final int B = ChargeStages.BAD_VALUE;
    private static final int N = ChargeStages.NONE;
    private static final int MIN = Integer.MIN_VALUE;
    private static final int MAX = Integer.MAX_VALUE;

    public static void main(String[] args) {
        noEventAtFirst();
        latestTenEvents();
        logGoesRoundAgain();
        tickAheadOfBecomingGreater();
        stageOfAnEvent();
        pauseBehindATickThatWasNot();
        pauseBehindAStart();
        eventBackFromZero();
        eventWhatFromZeroToTwo();
        historyIsEmptyAtFirst();
        historyOfFourStates();
        historyGoesRoundAgain();
        undoRemoves();
        actsAreRecorded();
        othersAreNotRecorded();
        snapshotIsEmptyAtFirst();
        snapshotInPlaceOfTheOneThatWas();
        snapshotStays();
        snapshotOfANewOne();
        stateIsNotTheText();
        stateIsNotTheHistory();
        stateIsNotTheSnapshot();
        stateIsEverythingElse();
        stateIsEachNumber();
        countFromZeroTo13();
        countOfAStageWhenCharging();
        countOfLeastAndGreatest();
        countOfPausedNow();
        countOfDoneAndFault();
        the512thCall();
        Check.finish();
    }

    // Promise 23: "NONE if there is none"
    private static void noEventAtFirst() {
        ChargeStages x = new ChargeStages();
        for (int what = 0; what <= 2; what++) {
            Check.due("no event " + what, x.event(0, what), N);
        }
        x.pass(200);
        x.battery(2);
        Check.due("no event of an idle one", x.event(0, 0), N);
    }

    // "The latest 10 events are known"
    private static void latestTenEvents() {
        ChargeStages x = Check.charging("r1;r1;r1;r1;r1");
        x.pass(5);
        x.start();
        x.pass(3);
        Check.dueEvent("the tenth", x, 9, 0, 0, 0);
        Check.due("no eleventh", x.event(10, 0), N);
        x.pass(1);
        Check.dueEvent("the first one is dropped", x, 9, 0, 0, 1);
        Check.due("no eleventh still", x.event(10, 0), N);
        Check.dueEvent("the latest one", x, 0, 0, 8, 4);
    }

    // "The latest 10 events are known", when many more have been
    private static void logGoesRoundAgain() {
        ChargeStages x = new ChargeStages();
        Check.read(x, "r1");
        for (int began = 0; began < 30; began++) {
            x.start();
            x.pass(1);
            for (int back = 0; back < 10; back++) {
                boolean isKnown = back < 2 * (began + 1);
                int kind = back % 2 == 0 ? 1 : 0;
                Check.due("kind " + back + " of " + began, x.event(back, 0), isKnown ? kind : N);
            }
            int oldest = Math.min(2 * began + 1, 9);
            Check.dueEvent("oldest of " + began, x, oldest, 0, Math.max(0, began - 4), 0);
        }
    }

    // "each with the tick as it is ahead of becoming greater"
    private static void tickAheadOfBecomingGreater() {
        ChargeStages x = new ChargeStages();
        Check.read(x, "r1;r2/1");
        x.pass(6);
        x.start();
        Check.due("started ahead of the tick 6", x.event(0, 1), 6);
        x.pass(1);
        Check.due("began in the tick 6", x.event(0, 1), 6);
        x.pass(1);
        Check.due("at fault in the tick 7", x.event(0, 1), 7);
        Check.due("the tick then", x.count(0), 8);
        Check.read(x, "r1");
        x.start();
        x.set(3, 80);
        x.pass(3);
        Check.due("a pause in the tick 8", x.event(0, 1), 8);
        x.set(3, 25);
        x.pass(3);
        Check.due("done in the tick 11", x.event(0, 1), 11);
    }

    // Promise 23: "(that which began, or in which it happened; the last one for 1)"
    private static void stageOfAnEvent() {
        ChargeStages x = Check.charging("r1;r1;r3");
        x.pass(2);
        Check.dueEvent("that which began", x, 0, 0, 1, 2);
        x.set(3, 80);
        x.pass(1);
        Check.dueEvent("the one that is paused", x, 0, 3, 2, 2);
        x.set(3, 25);
        x.pass(3);
        Check.dueEvent("the last one", x, 0, 1, 5, 2);
        ChargeStages fault = Check.charging("r1;r2/1;r1");
        fault.pass(2);
        Check.dueEvent("the one at fault", fault, 0, 2, 1, 1);
    }

    // "3 a pause began (a paused tick behind one that was not ..)"
    private static void pauseBehindATickThatWasNot() {
        ChargeStages x = Check.charging("r90");
        x.pass(1);
        x.set(3, 46);
        Check.due("no event without a tick", x.event(0, 0), 0);
        x.pass(1);
        Check.dueEvent("the first paused tick", x, 0, 3, 1, 0);
        x.pass(1);
        x.set(3, -1);
        x.pass(1);
        x.set(3, 25);
        x.set(3, -1);
        x.pass(1);
        Check.dueEvent("one pause", x, 0, 3, 1, 0);
        Check.dueEvent("one event", x, 1, 0, 0, 0);
        x.set(3, 25);
        x.pass(1);
        x.set(3, 46);
        x.pass(1);
        Check.dueEvent("another pause", x, 0, 3, 6, 0);
        Check.dueEvent("the first pause", x, 1, 3, 1, 0);
    }

    // "(.. or behind the beginning of a stage by start())"
    private static void pauseBehindAStart() {
        ChargeStages x = new ChargeStages();
        x.set(3, 46);
        Check.read(x, "r9");
        x.start();
        x.pass(1);
        Check.dueEvent("behind the first start", x, 0, 3, 0, 0);
        x.stop();
        x.start();
        x.pass(1);
        Check.dueEvent("a paused tick, stop and start", x, 0, 3, 1, 0);
        Check.dueEvent("the start", x, 1, 0, 1, 0);
        x.battery(2);
        x.start();
        x.pass(2);
        Check.dueEvent("a paused tick, battery and start", x, 0, 3, 2, 0);
        Check.dueEvent("that start", x, 1, 0, 2, 0);
    }

    // Promise 23: "back: 0 for the latest event .."; "BAD_VALUE (back is negative, or what); NONE"
    private static void eventBackFromZero() {
        ChargeStages x = Check.charging("r1");
        Check.due("the latest", x.event(0, 0), 0);
        Check.due("one that is not there", x.event(1, 0), N);
        Check.due("one that can't be there", x.event(10, 0), N);
        Check.due("the greatest", x.event(MAX, 0), N);
        Check.due("-1", x.event(-1, 0), B);
        Check.due("the least", x.event(MIN, 0), B);
    }

    // Promise 23: "what: 0 for its kind, 1 for its tick, 2 for the stage"
    private static void eventWhatFromZeroToTwo() {
        ChargeStages x = Check.charging("r1");
        for (int what : new int[] {-1, 3, MIN, MAX}) {
            Check.due("what " + what, x.event(0, what), B);
            Check.due("what " + what + " of none", x.event(1, what), B);
        }
        ChargeStages y = new ChargeStages();
        Check.due("what 2 of none", y.event(0, 2), N);
        Check.due("what 3 of none", y.event(0, 3), B);
    }

    // Promise 12: "NONE if the history is empty"
    private static void historyIsEmptyAtFirst() {
        ChargeStages x = new ChargeStages();
        Check.due("undo of a new one", x.undo(), N);
        Check.due("no states", x.count(12), 0);
        x.set(3, 26);
        Check.due("undo of one", x.undo(), 0);
        Check.due("undo of no more", x.undo(), N);
    }

    // "A history of at most 4 states is kept; when one more is recorded, the oldest one is dropped"
    private static void historyOfFourStates() {
        ChargeStages x = new ChargeStages();
        for (int charge = 1; charge <= 4; charge++) {
            x.setCharge(0, charge);
        }
        Check.due("four", x.count(12), 4);
        x.setCharge(0, 5);
        Check.due("four still", x.count(12), 4);
        for (int left = 3; left >= 0; left--) {
            Check.due("undo to " + left, x.undo(), left);
            Check.due("the charge of " + left, x.cell(0, 0), left + 1);
        }
        Check.due("the oldest one is dropped", x.undo(), N);
        Check.due("nothing is changed by that", x.cell(0, 0), 1);
    }

    // "when one more is recorded", again and again, with some undone between
    private static void historyGoesRoundAgain() {
        ChargeStages x = new ChargeStages();
        int charge = 0;
        for (int round = 0; round < 12; round++) {
            for (int i = 0; i < 3; i++) {
                charge++;
                x.setCharge(0, charge);
            }
            Check.due("undo " + round, x.undo(), round == 0 ? 2 : 3);
            charge--;
            Check.due("the charge " + round, x.cell(0, 0), charge);
        }
        x.setCharge(0, 999);
        int[] before = {charge, charge - 1, charge - 2, charge - 3};
        for (int i = 0; i < 4; i++) {
            Check.due("at last, undo " + i, x.undo(), 3 - i);
            Check.due("at last, the charge " + i, x.cell(0, 0), before[i]);
        }
        Check.due("no more", x.undo(), N);
    }

    // "undo() removes and restores the latest one"
    private static void undoRemoves() {
        ChargeStages x = new ChargeStages();
        x.setCharge(0, 1);
        x.setCharge(0, 2);
        Check.due("states left", x.undo(), 1);
        Check.due("the charge", x.cell(0, 0), 1);
        x.setCharge(0, 3);
        Check.due("an act behind it", x.count(12), 2);
        Check.due("undo of that", x.undo(), 1);
        Check.due("not what was undone", x.cell(0, 0), 1);
    }

    // "Each call of a method that is described as an act .. records the state that was before it"
    private static void actsAreRecorded() {
        ChargeStages x = new ChargeStages();
        Check.typeText(x, "r2/1");
        x.keep();
        String[] acts = {"battery", "setCharge", "use", "set", "readProfile", "start", "pass", "stop",
            "restore"};
        int[][] before = new int[acts.length][];
        for (int act = 0; act < acts.length; act++) {
            ChargeStages y = new ChargeStages();
            Check.typeText(y, "r2/1");
            y.keep();
            for (int i = 0; i < act; i++) {
                doAct(y, i);
            }
            before[act] = StateOf.row(y);
            int states = y.count(12);
            doAct(y, act);
            Check.due(acts[act] + " is an act", y.count(12), Math.min(4, states + 1));
            y.undo();
            StateOf.same(acts[act] + " undone", y, before[act]);
        }
    }

    private static void doAct(ChargeStages x, int act) {
        switch (act) {
            case 0:
                Check.due("battery", x.battery(1), 3);
                break;
            case 1:
                Check.due("setCharge", x.setCharge(0, 9), 0);
                break;
            case 2:
                Check.due("use", x.use(3), 6);
                break;
            case 3:
                Check.due("set", x.set(1, 7), 1100);
                break;
            case 4:
                Check.due("readProfile", x.readProfile(), 1);
                break;
            case 5:
                Check.due("start", x.start(), 0);
                break;
            case 6:
                Check.due("pass", x.pass(1), 3);
                break;
            case 7:
                Check.due("stop", x.stop(), 3);
                break;
            default:
                Check.due("restore", x.restore(), 0);
                break;
        }
    }

    // "a method that is described as an act": type, clearText, undo and keep are not
    private static void othersAreNotRecorded() {
        ChargeStages x = new ChargeStages();
        x.type('r');
        x.clearText();
        x.keep();
        Check.due("no states", x.count(12), 0);
        x.setCharge(0, 1);
        x.setCharge(0, 2);
        x.type('r');
        x.clearText();
        x.keep();
        Check.due("two states", x.count(12), 2);
        x.undo();
        Check.due("one state", x.count(12), 1);
        x.current();
        x.doneIn();
        x.chargeIn(0, 200);
        x.warmest();
        Check.due("one state still", x.count(12), 1);
    }

    // "There is one snapshot, empty at first"; promise 14: "NONE if there is no snapshot"
    private static void snapshotIsEmptyAtFirst() {
        ChargeStages x = new ChargeStages();
        Check.due("restore of none", x.restore(), N);
        x.setCharge(0, 5);
        Check.due("restore of none still", x.restore(), N);
        Check.due("the charge", x.cell(0, 0), 5);
        Check.due("one act", x.count(12), 1);
    }

    // Promise 13: "Takes a snapshot of the state, in place of the one that was. Returns the tick."
    private static void snapshotInPlaceOfTheOneThatWas() {
        ChargeStages x = new ChargeStages();
        Check.due("keep at 0", x.keep(), 0);
        x.pass(5);
        x.setCharge(0, 7);
        Check.due("keep at 5", x.keep(), 5);
        x.pass(6);
        x.setCharge(0, 8);
        Check.due("restore", x.restore(), 5);
        Check.due("the charge", x.cell(0, 0), 7);
        Check.due("keep what was restored", x.keep(), 5);
    }

    // Promise 14: "Restores the state of the snapshot, which stays."
    private static void snapshotStays() {
        ChargeStages x = new ChargeStages();
        x.setCharge(0, 7);
        x.pass(3);
        x.keep();
        for (int again = 0; again < 6; again++) {
            x.setCharge(0, 8 + again);
            x.pass(1);
            Check.due("restore " + again, x.restore(), 3);
            Check.due("the charge " + again, x.cell(0, 0), 7);
        }
        Check.due("restore of what is so already", x.restore(), 3);
        Check.due("an act, too", x.undo(), 3);
        Check.due("the charge is the same", x.cell(0, 0), 7);
    }

    // Promise 14, of a snapshot with nothing in it
    private static void snapshotOfANewOne() {
        ChargeStages x = new ChargeStages();
        int[] first = StateOf.row(x);
        x.keep();
        Check.read(x, "c100:4500;r1");
        x.battery(6);
        x.setCharge(5, 9);
        x.set(0, 5000);
        x.start();
        x.pass(2);
        Check.due("restore", x.restore(), 0);
        StateOf.same("a new one", x, first);
    }

    // "A state is everything but the text ..": undo() and restore() leave it
    private static void stateIsNotTheText() {
        ChargeStages x = new ChargeStages();
        x.type('r');
        x.keep();
        x.setCharge(0, 1);
        x.type('2');
        x.undo();
        Check.due("undo leaves it", x.count(13), 2);
        x.type('5');
        x.restore();
        Check.due("restore leaves it", x.count(13), 3);
        x.clearText();
        x.undo();
        Check.due("an empty one, too", x.count(13), 0);
        x.restore();
        Check.due("an empty one, too", x.count(13), 0);
    }

    // ".. the history ..": restore() leaves it, and records one more
    private static void stateIsNotTheHistory() {
        ChargeStages x = new ChargeStages();
        x.keep();
        x.setCharge(0, 1);
        x.setCharge(0, 2);
        x.restore();
        Check.due("three states", x.count(12), 3);
        x.undo();
        Check.due("ahead of restore", x.cell(0, 0), 2);
        x.undo();
        Check.due("one more", x.cell(0, 0), 1);
        Check.due("the last", x.undo(), 0);
    }

    // ".. and the snapshot": undo() leaves it
    private static void stateIsNotTheSnapshot() {
        ChargeStages x = new ChargeStages();
        x.setCharge(0, 1);
        x.keep();
        x.undo();
        Check.due("undo leaves it", x.restore(), 0);
        Check.due("what was kept", x.cell(0, 0), 1);
        x.setCharge(0, 2);
        x.keep();
        x.undo();
        x.restore();
        Check.due("nor brings the one before", x.cell(0, 0), 2);
    }

    // "A state is everything but ..": also that a pause goes on, and the log's ten events
    private static void stateIsEverythingElse() {
        ChargeStages x = Check.charging("r1;r1;r1;r1;r90");
        x.pass(4);
        x.set(3, 80);
        x.pass(1);
        x.keep();
        int[] kept = StateOf.row(x);
        x.set(3, 25);
        x.pass(1);
        x.battery(1);
        for (int began = 0; began < 12; began++) {
            x.start();
            x.pass(1);
            x.stop();
        }
        x.restore();
        StateOf.same("restored", x, kept);
        x.pass(1);
        Check.dueEvent("the pause goes on", x, 0, 3, 4, 4);
        Check.dueEvent("the events ahead of it", x, 1, 0, 3, 4);
    }

    /** A charger of which no number of the state is as it was at first. */
    private static ChargeStages withAllNumbers() {
        ChargeStages x = new ChargeStages();
        x.battery(2);
        Check.read(x, "c101:3000;r2/1");
        x.set(8, 50);
        x.set(2, 99);
        x.setCharge(1, 999);
        x.start();
        x.pass(2);
        Check.due("at fault", x.count(3), 3);
        x.use(1);
        Check.read(x, "r1");
        x.start();
        x.set(3, 80);
        x.pass(1);
        x.set(3, 25);
        x.pass(1);
        Check.due("done", x.count(3), 2);
        return x;
    }

    // "A state is everything but ..": each number of it, by undo() and by restore()
    private static void stateIsEachNumber() {
        ChargeStages x = withAllNumbers();
        int[] first = StateOf.row(new ChargeStages());
        int[] row = StateOf.row(x);
        for (int what : new int[] {0, 1, 2, 3, 6, 7, 8, 10, 11}) {
            Check.holds("count " + what + " is not as at first", row[what] != first[what]);
        }
        for (int what = 0; what <= 8; what++) {
            Check.holds("number " + what + " of a cell is not as at first",
                    x.cell(1, what) != (what == 1 ? 3000 : 0));
        }
        x.keep();
        x.battery(2);
        x.undo();
        StateOf.same("undone", x, row);
        ChargeStages y = withAllNumbers();
        y.keep();
        y.start();
        y.set(3, 80);
        y.pass(2);
        y.set(3, 25);
        y.pass(1);
        y.battery(2);
        y.restore();
        StateOf.same("restored", y, row);
        ChargeStages z = withAllNumbers();
        z.start();
        z.undo();
        z.undo();
        Check.due("done is undone", z.count(10), 0);
        z.undo();
        z.undo();
        Check.due("a paused tick is undone", z.count(6), 0);
        ofANewOneAgain();
    }

    private static void ofANewOneAgain() {
        ChargeStages x = new ChargeStages();
        x.keep();
        int[] first = StateOf.row(x);
        Check.read(x, "c101:3000;r2/1;r1");
        x.set(8, 50);
        x.set(2, 99);
        x.setCharge(1, 999);
        x.start();
        x.pass(2);
        x.use(1);
        x.start();
        x.set(3, 80);
        x.pass(1);
        x.restore();
        StateOf.same("a new one again", x, first);
        Check.read(x, "r1");
        x.start();
        x.pass(1);
        Check.due("done", x.count(10), 1);
        x.restore();
        StateOf.same("a new one once more", x, first);
    }

    // Promise 24: "what: 0 for the tick .. 13 for the length of the text"
    private static void countFromZeroTo13() {
        ChargeStages x = new ChargeStages();
        for (int what : new int[] {-1, 14, MIN, MAX}) {
            Check.due("count " + what, x.count(what), B);
        }
        int[] first = {0, 3, 0, 0, N, 0, 0, 0, 0, 0, 0, 0, 0, 0};
        for (int what = 0; what <= 13; what++) {
            Check.due("count " + what + " of a new one", x.count(what), first[what]);
        }
        Check.read(x, "r1;r9");
        x.set(5, 26);
        x.setCharge(1, 8);
        x.start();
        x.pass(2);
        x.set(5, 0);
        x.pass(3);
        int[] later = {5, 3, 2, 1, 1, 2, 2, 0, 8, 0, 0, 0, 4, 5};
        for (int what = 0; what <= 13; what++) {
            Check.due("count " + what + " later", x.count(what), later[what]);
        }
    }

    // "4 for the stage (NONE if it is not charging), 5 .. (0 if it is not charging)"
    private static void countOfAStageWhenCharging() {
        ChargeStages x = Check.charging("r1;r5/3");
        x.pass(3);
        Check.due("the stage", x.count(4), 1);
        Check.due("lasted", x.count(5), 2);
        x.set(3, 80);
        Check.due("the stage in a pause", x.count(4), 1);
        Check.due("lasted in a pause", x.count(5), 2);
        x.stop();
        Check.due("the stage of an idle one", x.count(4), N);
        Check.due("lasted of an idle one", x.count(5), 0);
        x.undo();
        x.set(3, 25);
        x.pass(1);
        Check.due("the state", x.count(3), 3);
        Check.due("the stage at fault", x.count(4), N);
        Check.due("lasted at fault", x.count(5), 0);
        ChargeStages done = Check.charging("r2");
        done.pass(2);
        Check.due("the stage of a done one", done.count(4), N);
        Check.due("lasted of a done one", done.count(5), 0);
    }

    // "7 for the least charge of a cell, 8 for the greatest one"
    private static void countOfLeastAndGreatest() {
        for (int at = 0; at < 6; at++) {
            ChargeStages x = new ChargeStages();
            x.battery(6);
            Check.due("the least of empty ones", x.count(7), 0);
            Check.due("the greatest of empty ones", x.count(8), 0);
            for (int cell = 0; cell < 6; cell++) {
                x.setCharge(cell, 500);
            }
            x.setCharge(at, 1000);
            Check.due("the greatest at " + at, x.count(8), 1000);
            Check.due("the least then", x.count(7), 500);
            x.setCharge(at, 0);
            Check.due("the least at " + at, x.count(7), 0);
            Check.due("the greatest then", x.count(8), 500);
        }
        ChargeStages one = new ChargeStages();
        one.setCharge(2, 900);
        one.battery(1);
        one.setCharge(0, 4);
        Check.due("the least of one", one.count(7), 4);
        Check.due("the greatest of one", one.count(8), 4);
    }

    // "9 for whether it is paused now: it is charging, and too cold or too hot (1, otherwise 0)"
    private static void countOfPausedNow() {
        ChargeStages x = new ChargeStages();
        x.set(3, 80);
        Check.due("idle and too hot", x.count(9), 0);
        Check.read(x, "r1");
        x.start();
        Check.due("charging and too hot, ahead of a tick", x.count(9), 1);
        x.set(3, -30);
        Check.due("charging and too cold", x.count(9), 1);
        x.pass(1);
        x.set(3, 25);
        Check.due("neither, behind a paused tick", x.count(9), 0);
        Check.due("a paused tick so far", x.count(6), 1);
    }

    // "10 for how often it was done so far, 11 for how often it was at fault so far"
    private static void countOfDoneAndFault() {
        ChargeStages x = new ChargeStages();
        for (int times = 1; times <= 3; times++) {
            Check.read(x, "r1");
            x.start();
            x.pass(2);
            x.pass(1);
            Check.due("done", x.count(10), times);
            Check.due("at fault before", x.count(11), times - 1);
            Check.read(x, "r2/1");
            x.start();
            x.pass(2);
            x.pass(1);
            Check.due("at fault", x.count(11), times);
            Check.due("done before", x.count(10), times);
        }
        x.stop();
        x.start();
        x.stop();
        Check.due("stop is not done", x.count(10), 3);
        Check.due("stop is no fault", x.count(11), 3);
    }

    // "An object is used for at most 512 calls after it has been made"
    private static void the512thCall() {
        ChargeStages x = new ChargeStages();
        for (int call = 1; call <= 510; call++) {
            Check.due("call " + call, x.setCharge(call % 3, call), call > 3 ? call - 3 : 0);
        }
        Check.due("call 511", x.undo(), 3);
        Check.due("call 512", x.cell(0, 0), 507);
    }
}
