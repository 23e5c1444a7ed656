import java.util.function.Supplier;
import java.util.function.ToIntFunction;

/**
 * A call that must change nothing: of two chargers that were made alike, one is asked, and both are
 * compared then, also by what undo(), restore() and the text bring to light.
 *
 * <p>Each look takes new chargers, so that none is used for more than the document's 512 calls.
 */
final class Unchanged {
    private static final int UNDONE_MOST = 5;

    private Unchanged() {}

    static void by(String name, Supplier<ChargeStages> made, ToIntFunction<ChargeStages> call,
            int want) {
        ChargeStages asked = made.get();
        Check.due(name, call.applyAsInt(asked), want);
        alike(name, asked, made.get());
        for (int undone = 1; undone <= UNDONE_MOST; undone++) {
            ChargeStages x = askedOne(made, call);
            ChargeStages y = made.get();
            for (int i = 0; i < undone; i++) {
                Check.due(name + ", then undo " + i, x.undo(), y.undo());
            }
            alike(name + ", undone " + undone, x, y);
        }
        textAndSnapshot(name, askedOne(made, call), made.get());
        nextPass(name, askedOne(made, call), made.get());
    }

    private static ChargeStages askedOne(Supplier<ChargeStages> made,
            ToIntFunction<ChargeStages> call) {
        ChargeStages x = made.get();
        call.applyAsInt(x);
        return x;
    }

    private static void textAndSnapshot(String name, ChargeStages x, ChargeStages y) {
        Check.due(name + ", then readProfile", x.readProfile(), y.readProfile());
        Check.due(name + ", then restore", x.restore(), y.restore());
        alike(name + ", restored", x, y);
        x.stop();
        y.stop();
        Check.due(name + ", then readProfile when idle", x.readProfile(), y.readProfile());
        alike(name + ", read", x, y);
    }

    /** What no call tells, such as whether a pause goes on, is seen by what a tick does. */
    private static void nextPass(String name, ChargeStages x, ChargeStages y) {
        Check.due(name + ", then pass", x.pass(3), y.pass(3));
        alike(name + ", passed", x, y);
    }

    private static void alike(String name, ChargeStages x, ChargeStages y) {
        StateOf.same(name, x, StateOf.row(y));
        Check.due(name + ": states", x.count(12), y.count(12));
        Check.due(name + ": length", x.count(13), y.count(13));
    }
}
