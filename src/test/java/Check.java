/** What the tests share: comparing an answer with the one that is due, and small ways to say things. */
final class Check {
    private static int asDue = 0;
    private static int wrong = 0;

    private Check() {}

    static void due(String call, int got, int want) {
        if (got == want) {
            asDue++;
        } else {
            wrong++;
            System.out.println(call + " answered " + got + ", due is " + want);
        }
    }

    static void holds(String what, boolean so) {
        due(what + " (1 for yes)", so ? 1 : 0, 1);
    }

    /** Ends the test's program: with exit code 1 if an answer was wrong. */
    static void finish() {
        System.out.println("  " + asDue + " answers as due, " + wrong + " not");
        if (wrong > 0 || asDue == 0) {
            System.exit(1);
        }
    }

    static void typeText(ChargeStages x, String text) {
        x.clearText();
        for (int i = 0; i < text.length(); i++) {
            x.type(text.charAt(i));
        }
    }

    /** What readProfile() answers to a text. */
    static int read(ChargeStages x, String text) {
        typeText(x, text);
        return x.readProfile();
    }

    /** A new charger that has begun to charge with a profile. */
    static ChargeStages charging(String text) {
        ChargeStages x = new ChargeStages();
        read(x, text);
        x.start();
        return x;
    }

    /** Compares a number told of each cell. */
    static void dueCells(String name, ChargeStages x, int what, int... want) {
        for (int cell = 0; cell < want.length; cell++) {
            due(name + ": cell(" + cell + ", " + what + ")", x.cell(cell, what), want[cell]);
        }
    }

    /** Compares an event, the latest one for 0. */
    static void dueEvent(String name, ChargeStages x, int back, int kind, int tick, int stage) {
        due(name + ": event(" + back + ", 0)", x.event(back, 0), kind);
        due(name + ": event(" + back + ", 1)", x.event(back, 1), tick);
        due(name + ": event(" + back + ", 2)", x.event(back, 2), stage);
    }
}
