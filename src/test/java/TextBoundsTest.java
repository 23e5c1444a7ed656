/**
 * The boundaries that TEXTS and the promises 6, 10 and 11 name, a test for each sentence, which stands
 * above it.
 */
public final class TextBoundsTest {
    private static final int B = ChargeStages.BAD_VALUE;
    private static final int F = ChargeStages.FULL;
    private static final int P = ChargeStages.NOT_POSSIBLE;

    public static void main(String[] args) {
        atMost60Characters();
        emptyAtFirst();
        anyCharacterIsTyped();
        clearTextEmpties();
        oneToFiveStages();
        semicolonBetweenTwo();
        stagesAreOfThreeKinds();
        numbersOfOneToFourDigits();
        noZeroInFront();
        timerFromOneOn();
        timerIsPerhapsThere();
        faultIsTheFirstCharacterNotAllowed();
        faultIsTheLengthIfItEndsTooEarly();
        faultBehindTheFifthStage();
        faultAtTheLastCharacter();
        everyCharacterAtEveryPlace();
        rangesOfCurrents();
        rangesOfLimits();
        rangesOfLeastCurrents();
        rangesOfRests();
        rangesOfTimers();
        rangesOfEachStage();
        readsInTheOrderOfTheChecks();
        readingIsAnAct();
        textStays();
        Check.finish();
    }

    private static int read(String text) {
        return Check.read(new ChargeStages(), text);
    }

    private static void fault(String text, int place) {
        Check.due("the fault of \"" + text + "\"", read(text), -100 - place);
    }

    // "There is a text of at most 60 characters"; promise 10: "FULL if it has 60 characters"
    private static void atMost60Characters() {
        ChargeStages x = new ChargeStages();
        for (int length = 1; length <= 60; length++) {
            Check.due("type " + length, x.type('r'), length);
        }
        Check.due("a sixty-first", x.type('r'), F);
        Check.due("a sixty-second", x.type('1'), F);
        Check.due("the length", x.count(13), 60);
        Check.due("clearText", x.clearText(), 60);
        Check.due("room again", x.type('r'), 1);
        Check.due("the character before is gone", x.readProfile(), -101);
    }

    // "empty at first"
    private static void emptyAtFirst() {
        ChargeStages x = new ChargeStages();
        Check.due("the length", x.count(13), 0);
        Check.due("clearText", x.clearText(), 0);
        Check.due("its fault", x.readProfile(), -100);
    }

    // Promise 10: "character: any character"
    private static void anyCharacterIsTyped() {
        char[] characters = {0, '\n', ' ', 'r', 127, 128, 255, 256, 0xD800, 0xDC00, 0xFFFE, 0xFFFF};
        ChargeStages x = new ChargeStages();
        for (int i = 0; i < characters.length; i++) {
            Check.due("type " + (int) characters[i], x.type(characters[i]), i + 1);
            fault("r1" + characters[i], 2);
        }
        // Their low bytes are those of 'r' and '1'.
        fault("" + (char) ('r' + 256) + "1", 0);
        fault("r" + (char) ('1' + 256), 1);
        fault("r1" + (char) (';' + 512) + "r1", 2);
    }

    // Promise 11: "Empties the text. Returns the length that it had."
    private static void clearTextEmpties() {
        ChargeStages x = new ChargeStages();
        Check.typeText(x, "r1");
        Check.due("clearText", x.clearText(), 2);
        Check.due("clearText again", x.clearText(), 0);
        Check.due("the length", x.count(13), 0);
        x.type('c');
        Check.due("the fault is behind the c", x.readProfile(), -101);
    }

    // "A profile is one to five stages"
    private static void oneToFiveStages() {
        Check.due("none", read(""), -100);
        Check.due("one", read("r1"), 1);
        Check.due("two", read("r1;r1"), 2);
        Check.due("three", read("r1;r1;r1"), 3);
        Check.due("four", read("r1;r1;r1;r1"), 4);
        Check.due("five", read("r1;r1;r1;r1;r1"), 5);
        Check.due("six", read("r1;r1;r1;r1;r1;r1"), -114);
    }

    // "with ";" between two"
    private static void semicolonBetweenTwo() {
        fault(";r1", 0);
        fault("r1;", 3);
        fault("r1;;r1", 3);
        fault("r1r1", 2);
        fault("r1,r1", 2);
        fault("r1; r1", 3);
    }

    // "A stage is "c", a current, ":", a limit; or "v", a limit, ":", a least current; or "r", .."
    private static void stagesAreOfThreeKinds() {
        ChargeStages x = new ChargeStages();
        Check.due("all three", Check.read(x, "c1:3000;v3001:2;r3"), 3);
        for (int stage = 0; stage < 3; stage++) {
            Check.due("the kind of " + stage, x.stage(stage, 0), stage);
        }
        fault("a1:3000", 0);
        fault("C1:3000", 0);
        fault("c:3000", 1);
        fault("c1;3000", 2);
        fault("c1:;", 3);
        fault("c1:3000:1", 7);
        fault("v:1", 1);
        fault("v3000;1", 5);
        fault("v3000:;", 6);
        fault("v3000:1:1", 7);
        fault("r;", 1);
        fault("r1:1", 2);
    }

    // "A number has one to four digits"
    private static void numbersOfOneToFourDigits() {
        Check.due("one digit", read("r9"), 1);
        Check.due("two digits", read("r99"), 1);
        Check.due("three digits", read("r999"), 1);
        Check.due("four digits", read("r9999"), B);
        fault("r99999", 5);
        fault("c20000:3000", 5);
        fault("c2000:30000", 10);
        fault("v30000:1", 5);
        fault("v3000:10000", 10);
        fault("r1/10000", 7);
        fault("r", 1);
        fault("c:", 1);
    }

    // "without a zero in front unless it is the single digit 0"
    private static void noZeroInFront() {
        Check.due("a single 0", read("v3000:0"), 1);
        Check.due("a single 0 ahead of a timer", read("v3000:0/1"), 1);
        Check.due("a single 0 ahead of a stage", read("v3000:0;r1"), 2);
        Check.due("a 0 behind a digit", read("c10:3000"), 1);
        Check.due("a current of 0", read("c0:3000"), B);
        fault("v3000:00", 7);
        fault("v3000:01", 7);
        fault("c01:3000", 2);
        fault("c1:0300", 4);
        fault("v03000:1", 2);
        fault("r01", 2);
        fault("r00", 2);
    }

    // "and then perhaps "/" and a timer from 1 on"; "(.. a 0 as a timer, too)"
    private static void timerFromOneOn() {
        Check.due("1", read("r1/1"), 1);
        Check.due("10", read("r1/10"), 1);
        Check.due("999", read("r1/999"), 1);
        fault("r1/0", 3);
        fault("r1/01", 3);
        fault("r1/00", 3);
        fault("c1:3000/0", 8);
        fault("v3000:0/0", 8);
        fault("r1/0;r1", 3);
    }

    // "and then perhaps "/""
    private static void timerIsPerhapsThere() {
        ChargeStages x = new ChargeStages();
        Check.due("with and without", Check.read(x, "r1/2;c1:3000;v3000:0/3;r4"), 4);
        int[] timers = {2, 0, 3, 0};
        for (int stage = 0; stage < 4; stage++) {
            Check.due("the timer of " + stage, x.stage(stage, 3), timers[stage]);
        }
        fault("r1//2", 3);
        fault("r1/2/3", 4);
        fault("r/2", 1);
        fault("/2", 0);
    }

    // "the index, from 0, of the first character that is not allowed at its place"
    private static void faultIsTheFirstCharacterNotAllowed() {
        fault("x", 0);
        fault("xr1", 0);
        fault("rx", 1);
        fault("rxx", 1);
        fault("r1x;y", 2);
        fault("r1;x;y", 3);
        fault("r1;r1;r1;r1;x", 12);
        fault("r-1", 1);
        fault("r+1", 1);
        fault("r1 ", 2);
    }

    // "or the length of the text if it ends too early (the empty text does)"
    private static void faultIsTheLengthIfItEndsTooEarly() {
        String whole = "c12:3456/78;v3456:78/9;r9/10";
        int early = -100;
        // A limit of 3, 34 or 345 is no fault, but out of its range.
        int[] answers = {early, early, early, early, early, B, B, B, 1, early, 1, 1,
            early, early, early, early, early, early, early, 2, 2, early, 2,
            early, early, 3, early, 3, 3};
        Check.due("an answer for each length", answers.length, whole.length() + 1);
        for (int length = 0; length <= whole.length(); length++) {
            String text = whole.substring(0, length);
            int due = answers[length] == early ? early - length : answers[length];
            Check.due("\"" + text + "\"", read(text), due);
        }
    }

    // "(a ";" behind the fifth stage .. too)"
    private static void faultBehindTheFifthStage() {
        fault("r1;r1;r1;r1;r1;", 14);
        fault("r1;r1;r1;r1;r1;x", 14);
        fault("r1;r1;r1;r1;r1/7;", 16);
        fault("r1;r1;r1;r1;r1x", 14);
        fault("r1;r1;r1;r1;", 12);
        fault("r1;r1;r1;r1;r", 13);
        fault("r1;r1;r1;r1;r1/", 15);
        Check.due("a timer behind the fifth", read("r1;r1;r1;r1;r1/7"), 5);
    }

    // "of at most 60 characters", "the length of the text if it ends too early"
    private static void faultAtTheLastCharacter() {
        String text = "c2000:4500/999;c2000:4500/999;c2000:4500/999;c2000:4500/999";
        Check.due("the length", text.length(), 59);
        Check.due("59 characters", read(text), 4);
        fault(text + ";", 60);
        fault(text + "x", 59);
        fault(text + "/", 59);
        Check.due("a fourth digit is out of the range", read(text + "9"), B);
        fault("r1;r1;r1;c2000:4500/999;c2000:4500/9999999999999999999999999", 39);
    }

    // "not allowed at its place", for each place of some texts and each character
    private static void everyCharacterAtEveryPlace() {
        String[] texts = {"c1:3000/1;r1", "v3000:0;v3000:10", "r12/345", "r1;r1;r1;r1;r1"};
        for (String text : texts) {
            for (int place = 0; place <= text.length(); place++) {
                for (int character = 0; character < 300; character++) {
                    compare(text.substring(0, place) + (char) character);
                    compare(text.substring(0, place) + (char) character
                            + text.substring(Math.min(place + 1, text.length())));
                }
            }
        }
    }

    private static void compare(String text) {
        PlainCharger y = new PlainCharger();
        for (int i = 0; i < text.length(); i++) {
            y.type(text.charAt(i));
        }
        Check.due("\"" + text + "\"", read(text), y.readProfile());
    }

    // "a current (1 to 2000)"; promise 6: "BAD_VALUE if any number is out of its range"
    private static void rangesOfCurrents() {
        Check.due("0", read("c0:3000"), B);
        Check.due("1", read("c1:3000"), 1);
        Check.due("2000", read("c2000:3000"), 1);
        Check.due("2001", read("c2001:3000"), B);
        Check.due("9999", read("c9999:3000"), B);
    }

    // "a limit (3000 to 4500)"
    private static void rangesOfLimits() {
        for (String way : new String[] {"c1:#", "v#:1"}) {
            Check.due("0 of " + way, read(way.replace("#", "0")), B);
            Check.due("2999 of " + way, read(way.replace("#", "2999")), B);
            Check.due("3000 of " + way, read(way.replace("#", "3000")), 1);
            Check.due("4500 of " + way, read(way.replace("#", "4500")), 1);
            Check.due("4501 of " + way, read(way.replace("#", "4501")), B);
            Check.due("9999 of " + way, read(way.replace("#", "9999")), B);
        }
    }

    // "a least current (0 to 2000)"
    private static void rangesOfLeastCurrents() {
        Check.due("0", read("v3000:0"), 1);
        Check.due("2000", read("v3000:2000"), 1);
        Check.due("2001", read("v3000:2001"), B);
        Check.due("9999", read("v3000:9999"), B);
    }

    // "a number of ticks (1 to 999)"
    private static void rangesOfRests() {
        Check.due("0", read("r0"), B);
        Check.due("1", read("r1"), 1);
        Check.due("999", read("r999"), 1);
        Check.due("1000", read("r1000"), B);
        Check.due("9999", read("r9999"), B);
    }

    // "a timer (0 for none, or 1 to 999 ticks)"
    private static void rangesOfTimers() {
        for (String stage : new String[] {"c1:3000", "v3000:1", "r1"}) {
            Check.due("1 of " + stage, read(stage + "/1"), 1);
            Check.due("999 of " + stage, read(stage + "/999"), 1);
            Check.due("1000 of " + stage, read(stage + "/1000"), B);
            Check.due("9999 of " + stage, read(stage + "/9999"), B);
        }
    }

    // Promise 6: "if any number is out of its range"
    private static void rangesOfEachStage() {
        for (int bad = 0; bad < 5; bad++) {
            StringBuilder text = new StringBuilder();
            for (int stage = 0; stage < 5; stage++) {
                text.append(stage > 0 ? ";" : "").append(stage == bad ? "r0" : "r1");
            }
            Check.due("a bad one at " + bad, read(text.toString()), B);
        }
    }

    // Promise 6: a fault; "BAD_VALUE ..; NOT_POSSIBLE if the charger is charging"
    private static void readsInTheOrderOfTheChecks() {
        fault("r0;c0:0;", 8);
        ChargeStages x = Check.charging("r9");
        Check.due("a fault goes ahead of all", Check.read(x, "r0x"), -102);
        Check.due("a range goes ahead of charging", Check.read(x, "r0"), B);
        Check.due("charging", Check.read(x, "r1"), P);
        x.set(3, 80);
        Check.due("paused", x.readProfile(), P);
        x.stop();
        Check.due("idle", x.readProfile(), 1);
    }

    // Promise 6: "This is an act.", the same profile again, too; an error is none
    private static void readingIsAnAct() {
        ChargeStages x = new ChargeStages();
        Check.read(x, "r1");
        x.readProfile();
        Check.due("two acts", x.count(12), 2);
        x.type(';');
        x.readProfile();
        Check.due("a fault is no act", x.count(12), 2);
        Check.due("nor does it change the profile", x.stage(0, 1), 1);
        x.undo();
        Check.due("the first profile", x.count(2), 1);
        x.undo();
        Check.due("no profile", x.count(2), 0);
    }

    // Promise 6: "Makes the profile that of the text, which stays."
    private static void textStays() {
        ChargeStages x = new ChargeStages();
        Check.read(x, "r1;r2");
        Check.due("the length", x.count(13), 5);
        x.type('5');
        Check.due("the profile stays till it is read", x.stage(1, 1), 2);
        Check.due("read again", x.readProfile(), 2);
        Check.due("longer by a digit", x.stage(1, 1), 25);
        x.clearText();
        Check.due("the profile stays without the text", x.count(2), 2);
    }
}
