/**
 * Long runs of calls, each answer compared with that of PlainCharger. The same runs every time, and
 * none with more calls than the document's 512.
 */
public final class RandomRunsTest {
    private static final int RUNS = 3000;
    private static final int CALLS = 512;
    private static final int MOST_CALLS_OF_A_STEP = 6;
    private static final int CALLS_OF_ALL_COUNTS = 16;
    private static final int[] LEAST = {100, 0, 50, -30, 0, -30, -30, 0, 0};
    private static final int[] MOST = {5000, 200, 100, 80, 10, 80, 80, 500, 50};

    private Dice dice;
    private ChargeStages x;
    private PlainCharger y;
    private int calls;
    private String waiting = "";

    public static void main(String[] args) {
        for (int run = 1; run <= RUNS; run++) {
            new RandomRunsTest().run(run);
        }
        Check.finish();
    }

    private void run(int run) {
        dice = new Dice(run * 7919L);
        x = new ChargeStages();
        y = new PlainCharger();
        while (calls + MOST_CALLS_OF_A_STEP + CALLS_OF_ALL_COUNTS <= CALLS) {
            String name = "run " + run + ", call " + calls + ": ";
            if (waiting.isEmpty()) {
                change(name);
            } else {
                typeNext(name);
            }
            look(name);
            look(name);
        }
        for (int what = -1; what <= 14; what++) {
            due("run " + run + ", at last: count " + what, x.count(what), y.count(what));
        }
        Check.holds("run " + run + " has at most 512 calls", calls <= CALLS);
    }

    private void due(String call, int got, int want) {
        calls++;
        Check.due(call, got, want);
    }

    private void typeNext(String name) {
        char next = waiting.charAt(0);
        waiting = waiting.substring(1);
        due(name + "type " + (int) next, x.type(next), y.type(next));
        if (waiting.isEmpty()) {
            due(name + "readProfile", x.readProfile(), y.readProfile());
        }
    }

    private void change(String name) {
        int kind = dice.upTo(30);
        if (kind < 9) {
            int ticks = dice.upTo(3) == 0 ? dice.around(1, 200) : dice.from(1, 6);
            due(name + "pass " + ticks, x.pass(ticks), y.pass(ticks));
        } else if (kind < 13) {
            int which = dice.upTo(40) == 0 ? dice.around(0, 8) : dice.upTo(8);
            int value = which < 0 || which > 8 ? 0 : valueFor(which);
            due(name + "set " + which + " " + value, x.set(which, value), y.set(which, value));
        } else if (kind < 15) {
            int cell = dice.around(0, y.count(1) - 1);
            int charge = dice.around(0, dice.upTo(1) == 0 ? 100 : y.setting(0) - 1000);
            due(name + "setCharge " + cell + " " + charge, x.setCharge(cell, charge),
                    y.setCharge(cell, charge));
        } else if (kind == 15) {
            int cells = dice.around(1, 6);
            due(name + "battery " + cells, x.battery(cells), y.battery(cells));
        } else if (kind < 20) {
            due(name + "start", x.start(), y.start());
        } else {
            changeMore(name, kind);
        }
    }

    private int valueFor(int which) {
        if (which == 3 && dice.upTo(2) > 0) {
            return dice.from(y.setting(5) - 1000, y.setting(6) - 1000);
        }
        return dice.around(LEAST[which], MOST[which]);
    }

    private void changeMore(String name, int kind) {
        if (kind == 20) {
            due(name + "stop", x.stop(), y.stop());
        } else if (kind < 23) {
            int amount = dice.around(1, Math.max(1, y.count(7)));
            due(name + "use " + amount, x.use(amount), y.use(amount));
        } else if (kind < 25) {
            due(name + "undo", x.undo(), y.undo());
        } else if (kind == 25) {
            due(name + "keep", x.keep(), y.keep());
        } else if (kind == 26) {
            due(name + "restore", x.restore(), y.restore());
        } else if (kind < 29) {
            due(name + "clearText", x.clearText(), y.clearText());
            waiting = dice.upTo(2) == 0 ? spoiled(profile()) : profile();
        } else if (kind == 29) {
            due(name + "type", x.type('c'), y.type('c'));
        } else {
            due(name + "readProfile", x.readProfile(), y.readProfile());
        }
    }

    private String profile() {
        StringBuilder text = new StringBuilder();
        int stages = dice.from(1, dice.upTo(9) == 0 ? 6 : 4);
        for (int stage = 0; stage < stages; stage++) {
            text.append(stage > 0 ? ";" : "");
            int kind = dice.upTo(4);
            if (kind < 2) {
                text.append('c').append(dice.around(1, dice.upTo(1) == 0 ? 60 : 2000)).append(':')
                        .append(dice.around(3000, 4500));
            } else if (kind < 4) {
                text.append('v').append(dice.around(3000, 4500)).append(':').append(dice.around(0, 500));
            } else {
                text.append('r').append(dice.around(1, dice.upTo(5) == 0 ? 999 : 12));
            }
            if (dice.upTo(2) == 0) {
                text.append('/').append(dice.around(1, dice.upTo(3) == 0 ? 999 : 25));
            }
        }
        return text.toString();
    }

    private String spoiled(String text) {
        String signs = "0159:;/cvrx ";
        int place = dice.upTo(text.length());
        char sign = signs.charAt(dice.upTo(signs.length() - 1));
        int behind = Math.min(text.length(), place + dice.upTo(1));
        return dice.upTo(3) == 0 && place > 0 ? text.substring(0, place)
                : text.substring(0, place) + sign + text.substring(behind);
    }

    private void look(String name) {
        int kind = dice.upTo(15);
        if (kind < 5) {
            int what = dice.upTo(13);
            due(name + "count " + what, x.count(what), y.count(what));
        } else if (kind < 9) {
            int cell = dice.upTo(5) == 0 ? dice.around(0, y.count(1) - 1) : dice.upTo(y.count(1) - 1);
            int what = dice.upTo(9) == 0 ? dice.around(0, 8) : dice.upTo(8);
            due(name + "cell " + cell + " " + what, x.cell(cell, what), y.cell(cell, what));
        } else if (kind == 9) {
            int which = dice.around(0, 8);
            due(name + "setting " + which, x.setting(which), y.setting(which));
        } else if (kind == 10) {
            int stage = dice.around(0, Math.max(0, y.count(2) - 1));
            int told = dice.around(0, 4);
            due(name + "stage " + stage + " " + told, x.stage(stage, told), y.stage(stage, told));
        } else if (kind < 13) {
            int back = dice.upTo(1) == 0 ? 0 : dice.around(0, 10);
            int what = dice.around(0, 2);
            due(name + "event " + back + " " + what, x.event(back, what), y.event(back, what));
        } else if (kind == 13) {
            int current = dice.around(0, 2000);
            due(name + "voltage " + current, x.voltage(current), y.voltage(current));
        } else if (kind == 14) {
            due(name + "current", x.current(), y.current());
        } else {
            lookAhead(name);
        }
    }

    private void lookAhead(String name) {
        int kind = dice.upTo(19);
        if (kind < 10) {
            int cell = dice.around(0, y.count(1) - 1);
            int ticks = dice.upTo(3) == 0 ? dice.around(0, 200) : dice.upTo(9);
            due(name + "chargeIn " + cell + " " + ticks, x.chargeIn(cell, ticks),
                    y.chargeIn(cell, ticks));
        } else if (kind < 19) {
            due(name + "doneIn", x.doneIn(), y.doneIn());
        } else {
            due(name + "warmest", x.warmest(), y.warmest());
        }
    }
}
