/**
 * Forecasts of profiles that hang on the temperature and on timers, compared with those of
 * PlainCharger and with what then happens. The same runs every time.
 */
public final class RandomForecastsTest {
    private static final int RUNS = 3000;
    private static final int N = ChargeStages.NONE;

    private static int noneWarm = 0;
    private static int highestWarm = 0;
    private static int betweenWarm = 0;
    private static int lowestWarm = 0;
    private static int doneLate = 0;

    private final String name;
    private final Dice dice;
    private final ChargeStages x = new ChargeStages();
    private final PlainCharger y = new PlainCharger();
    private int lowest;
    private int highest;

    private RandomForecastsTest(int run) {
        name = "run " + run + ": ";
        dice = new Dice(run * 104729L);
    }

    public static void main(String[] args) {
        for (int run = 1; run <= RUNS; run++) {
            new RandomForecastsTest(run).run();
        }
        Check.holds("no temperature at times: " + noneWarm, noneWarm > 100);
        Check.holds("the highest one at times: " + highestWarm, highestWarm > 100);
        Check.holds("the lowest one at times: " + lowestWarm, lowestWarm > 10);
        Check.holds("one between at times: " + betweenWarm, betweenWarm > 100);
        Check.holds("done late at times: " + doneLate, doneLate > 100);
        Check.finish();
    }

    private void run() {
        makeCells();
        makeSettings();
        String text = anyProfile();
        for (int i = 0; i < text.length(); i++) {
            x.type(text.charAt(i));
            y.type(text.charAt(i));
        }
        due(text, x.readProfile(), y.readProfile());
        due("start", x.start(), y.start());
        for (int look = 0; look < 4; look++) {
            lookAhead();
            int ticks = dice.from(1, dice.upTo(3) == 0 ? 120 : 3);
            due("pass " + ticks, x.pass(ticks), y.pass(ticks));
            set(3, dice.from(lowest, highest));
        }
        foretoldIsWhatHappens();
    }

    private void due(String call, int got, int want) {
        Check.due(name + call, got, want);
    }

    private void set(int which, int value) {
        due("set " + which + " to " + value, x.set(which, value), y.set(which, value));
    }

    private void makeCells() {
        int cells = dice.from(1, 4);
        due("battery", x.battery(cells), y.battery(cells));
        set(0, dice.from(100, 5000));
        int capacity = y.setting(0) - 1000;
        int most = dice.upTo(1) == 0 ? capacity : capacity / 10;
        for (int cell = 0; cell < cells; cell++) {
            int charge = dice.upTo(most);
            due("setCharge", x.setCharge(cell, charge), y.setCharge(cell, charge));
        }
    }

    private void makeSettings() {
        set(1, dice.upTo(200));
        set(2, dice.from(50, 100));
        set(4, dice.from(dice.upTo(3) == 0 ? 0 : 4, 10));
        lowest = dice.from(-30, 40);
        highest = lowest + dice.upTo(dice.upTo(1) == 0 ? 3 : 40);
        // The widest range is made first, so that either end may be set ahead of the other.
        set(5, -30);
        set(6, highest);
        set(5, lowest);
        set(3, dice.from(lowest, highest));
        set(7, dice.upTo(60));
        set(8, dice.upTo(1) == 0 ? 0 : dice.upTo(50));
    }

    private String anyProfile() {
        switch (dice.upTo(5)) {
            case 0:
                return longProfile();
            case 1:
                return profile();
            default:
                return tightProfile();
        }
    }

    /** How far the first stage goes hangs on the temperature, and then there are few ticks. */
    private String tightProfile() {
        int limit = dice.from(3050, 4000);
        String first = "c" + dice.from(40, 900) + ":" + limit;
        int next = limit + dice.upTo(120);
        String second = dice.upTo(3) == 0 ? "v" + next + ":" + dice.upTo(300)
                : "c" + dice.from(1, 60) + ":" + next;
        return first + ";" + second + "/" + dice.from(1, 4);
    }

    /** A first stage that ends by its limit, and others that have just so many ticks. */
    private String profile() {
        StringBuilder text = new StringBuilder();
        text.append('c').append(dice.from(20, 900)).append(':').append(dice.from(3000, 4300));
        int more = dice.upTo(3);
        for (int stage = 0; stage < more; stage++) {
            text.append(';').append(stage()).append('/').append(dice.from(1, 12));
        }
        return text.toString();
    }

    private String stage() {
        switch (dice.upTo(4)) {
            case 0:
                return "v" + dice.from(3000, 4400) + ":" + dice.upTo(dice.upTo(1) == 0 ? 2000 : 100);
            case 1:
                return "r" + dice.from(1, 6);
            default:
                return "c" + dice.from(1, 200) + ":" + dice.from(3000, 4400);
        }
    }

    /** Rests that last about as long as the forecasts look ahead, and a current at their end. */
    private String longProfile() {
        String current = "c" + dice.from(1, 400) + ":" + dice.from(3000, 4300);
        return dice.upTo(1) == 0 ? "r" + dice.from(440, 510) + ";" + current
                : "r999;r" + dice.from(940, 999) + ";" + current;
    }

    private void lookAhead() {
        int told = x.doneIn();
        due("doneIn", told, y.doneIn());
        doneLate += told > 1900 ? 1 : 0;
        int cell = dice.upTo(y.count(1) - 1);
        int ticks = dice.upTo(200);
        due("chargeIn " + cell + " " + ticks, x.chargeIn(cell, ticks), y.chargeIn(cell, ticks));
        due("current", x.current(), y.current());
        int warmest = x.warmest();
        due("warmest", warmest, y.warmest());
        noneWarm += warmest == N ? 1 : 0;
        highestWarm += warmest == highest + 1000 ? 1 : 0;
        lowestWarm += warmest == lowest + 1000 && lowest < highest ? 1 : 0;
        betweenWarm += warmest > lowest + 1000 && warmest < highest + 1000 ? 1 : 0;
    }

    private void foretoldIsWhatHappens() {
        int told = x.doneIn();
        int left = told;
        while (left > 0) {
            due("not done with " + left + " left", x.count(3), 1);
            int ticks = Math.min(left, dice.from(1, 200));
            x.pass(ticks);
            left -= ticks;
        }
        due("done as it was told", x.count(3) == 2 ? 1 : 0, told == N ? 0 : 1);
    }
}
