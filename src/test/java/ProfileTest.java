/** Promises 6, 10, 11 and 17: readProfile, type, clearText, stage. */
public final class ProfileTest {
    private static final int U = ChargeStages.UNKNOWN;
    private static final int B = ChargeStages.BAD_VALUE;
    private static final int N = ChargeStages.NONE;

    public static void main(String[] args) {
        types();
        clears();
        readsStages();
        findsFaults();
        looksAtRanges();
        readsOnlyWhenNotCharging();
        tellsStages();
        tellsLimitsOfNow();
        Check.finish();
    }

    private static void types() {
        ChargeStages x = new ChargeStages();
        for (int length = 1; length <= 60; length++) {
            Check.due("type " + length, x.type((char) (length * 997)), length);
        }
        Check.due("type 61", x.type('c'), ChargeStages.FULL);
        Check.due("the length", x.count(13), 60);
        Check.due("not an act", x.count(12), 0);
        Check.due("any character is no stage", x.readProfile(), -100);
    }

    private static void clears() {
        ChargeStages x = new ChargeStages();
        Check.due("clearText() of an empty one", x.clearText(), 0);
        Check.typeText(x, "r12");
        Check.due("clearText()", x.clearText(), 3);
        Check.due("the length", x.count(13), 0);
        Check.due("not an act", x.count(12), 0);
        Check.due("readProfile() of an empty one", x.readProfile(), -100);
        x.type('r');
        Check.due("what was is gone", x.readProfile(), -101);
    }

    private static void readsStages() {
        ChargeStages x = new ChargeStages();
        Check.due("one stage", Check.read(x, "c1:3000"), 1);
        Check.due("the text stays", x.count(13), 7);
        Check.due("an act", x.count(12), 1);
        Check.due("the same again", x.readProfile(), 1);
        Check.due("an act again", x.count(12), 2);
        Check.due("five stages", Check.read(x, "r1;r2/9;c2000:4500/999;v3000:0;v4500:2000/1"), 5);
        Check.due("count(2)", x.count(2), 5);
        Check.due("idle still", x.count(3), 0);
        Check.due("60 characters",
                Check.read(x, "c2000:4500/999;c2000:4500/999;c2000:4500/999;c2000:4500/1;r1"), 5);
        Check.due("fewer stages", Check.read(x, "r999"), 1);
        Check.due("count(2) of fewer", x.count(2), 1);
        Check.due("stage(1, 0) of fewer", x.stage(1, 0), U);
    }

    private static void fault(String text, int place) {
        ChargeStages x = new ChargeStages();
        Check.read(x, "r7");
        Check.due("the fault of \"" + text + "\"", Check.read(x, text), -100 - place);
        Check.due("a fault changes nothing", x.stage(0, 1), 7);
        Check.due("a fault is no act", x.count(12), 1);
    }

    private static void findsFaults() {
        String[] texts = {"", "x", "C5:3000", ";", " r1", "1", "c", "c:", "c5", "c5;", "c5:", "c5:/",
            "c5:3000/", "c5:3000/0", "c5:3000/05", "c5:3000;", "c5:3000;;", "c5:3000x", "c00:3000",
            "c05:3000", "c12345:3000", "c5:30000", "c5:0300", "c5:3000/12345", "c5:3000/1/", "r",
            "r1:", "r1:2", "r01", "r00", "r12345", "r1/", "r1/0", "r-1", "r+1", "r1 ", "v", "v3000",
            "v3000:", "v3000:;", "v3000:00", "v3000:20000", "v3000:1;v", "r1;r2;r3;r4;r5;",
            "r1;r2;r3;r4;r5;r6", "r1;r2;r3;r4;", "r1;r2;r3;r4;r5/", "r1,r2", "c5,3000", "r\u0661",
            "r1\u0661", "c5:3000\u003b\u0000", "r\uffff", "c5:3000:1", "v3000/5"};
        int[] places = {0, 0, 0, 0, 0, 0, 1, 1, 2, 2, 3, 3,
            8, 8, 8, 8, 8, 7, 2,
            2, 5, 7, 4, 12, 9, 1,
            2, 2, 2, 2, 5, 3, 3, 1, 1, 2, 1, 5,
            6, 6, 7, 10, 9, 14,
            14, 12, 15, 2, 2, 1,
            2, 8, 1, 7, 5};
        Check.due("as many texts as places", texts.length, places.length);
        for (int i = 0; i < texts.length; i++) {
            fault(texts[i], places[i]);
        }
        fault("c2000:4500/999;c2000:4500/999;c2000:4500/999;c2000:4500/999;", 60);
        // Nothing of a longer text that was there before is read.
        ChargeStages x = new ChargeStages();
        Check.read(x, "c5:3000");
        Check.due("a shorter text", Check.read(x, "c5"), -102);
    }

    private static void range(String text, boolean isIn) {
        ChargeStages x = new ChargeStages();
        Check.read(x, "r7");
        Check.due("the range of \"" + text + "\"", Check.read(x, text), isIn ? 1 : B);
        Check.due("states of \"" + text + "\"", x.count(12), isIn ? 2 : 1);
        if (!isIn) {
            Check.due("a bad value changes nothing", x.stage(0, 1), 7);
        }
    }

    private static void looksAtRanges() {
        String[] good = {"c1:3000", "c2000:4500", "v3000:0", "v4500:2000", "r1", "r999", "r1/1",
            "r1/999"};
        String[] bad = {"c0:3000", "c2001:3000", "c1:2999", "c1:4501", "c1:0", "v2999:0", "v4501:0",
            "v3000:2001", "v0:0", "v9999:0", "v3000:9999", "r0", "r1000", "r9999", "r1/1000",
            "r1/9999", "c1:3000/1000", "v3000:1/1000", "r1;r2;r3;r4;r0", "r0;r1"};
        for (String text : good) {
            range(text, true);
        }
        for (String text : bad) {
            range(text, false);
        }
        Check.due("a fault goes ahead of a range", Check.read(new ChargeStages(), "r0;"), -103);
    }

    private static void readsOnlyWhenNotCharging() {
        ChargeStages x = Check.charging("r1");
        Check.due("while charging", x.readProfile(), ChargeStages.NOT_POSSIBLE);
        Check.due("a fault while charging", Check.read(x, "r"), -101);
        Check.due("a range while charging", Check.read(x, "r0"), B);
        x.set(3, 80);
        Check.due("in a pause", Check.read(x, "r2"), ChargeStages.NOT_POSSIBLE);
        x.set(3, 25);
        x.pass(1);
        Check.due("when done", Check.read(x, "r2;r2/1"), 2);
        Check.due("it is done still", x.count(3), 2);
        Check.due("doneIn() of it", x.doneIn(), 0);
        x.start();
        x.pass(3);
        Check.due("at fault", x.count(3), 3);
        Check.due("when at fault", Check.read(x, "r2"), 1);
        Check.due("it is at fault still", x.count(3), 3);
    }

    private static void dueStage(ChargeStages x, int stage, int... want) {
        for (int what = 0; what < want.length; what++) {
            Check.due("stage(" + stage + ", " + what + ")", x.stage(stage, what), want[what]);
        }
    }

    private static void tellsStages() {
        ChargeStages x = new ChargeStages();
        Check.read(x, "c12:3456/78;v4321:9;r999/5;c2000:3000;v3000:2000/999");
        dueStage(x, 0, 0, 12, 3456, 78, 3456);
        dueStage(x, 1, 1, 4321, 9, 0, 4321);
        dueStage(x, 2, 2, 999, 0, 5, N);
        dueStage(x, 3, 0, 2000, 3000, 0, 3000);
        dueStage(x, 4, 1, 3000, 2000, 999, 3000);
        Check.due("stage(5, 0)", x.stage(5, 0), U);
        Check.due("stage(-1, 0)", x.stage(-1, 0), U);
        Check.due("stage(5, -1)", x.stage(5, -1), U);
        Check.due("stage(0, -1)", x.stage(0, -1), B);
        Check.due("stage(0, 5)", x.stage(0, 5), B);
        Check.due("stage(2, 5)", x.stage(2, 5), B);
        Check.read(x, "r3;r4;r5");
        dueStage(x, 0, 2, 3, 0, 0, N);
        dueStage(x, 1, 2, 4, 0, 0, N);
        Check.due("stage(3, 0) of three", x.stage(3, 0), U);
    }

    private static void tellsLimitsOfNow() {
        ChargeStages x = new ChargeStages();
        Check.read(x, "c1:4000;v3000:0;r1");
        x.set(4, 10);
        x.set(3, -30);
        dueStage(x, 0, 0, 1, 4000, 0, 4550);
        dueStage(x, 1, 1, 3000, 0, 0, 3550);
        dueStage(x, 2, 2, 1, 0, 0, N);
        x.set(3, 80);
        dueStage(x, 0, 0, 1, 4000, 0, 3450);
        dueStage(x, 1, 1, 3000, 0, 0, 2450);
        x.set(4, 0);
        dueStage(x, 0, 0, 1, 4000, 0, 4000);
        x.set(4, 1);
        x.set(3, 26);
        dueStage(x, 0, 0, 1, 4000, 0, 3999);
    }
}
