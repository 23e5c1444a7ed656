import java.util.ArrayList;
import java.util.List;

/** All that a charger tells of its state, as a row of numbers that can be compared. */
final class StateOf {
    private StateOf() {}

    static int[] row(ChargeStages x) {
        List<Integer> row = new ArrayList<>();
        for (int what = 0; what <= 11; what++) {
            row.add(x.count(what));
        }
        for (int cell = 0; cell < 6; cell++) {
            for (int what = 0; what <= 8; what++) {
                row.add(x.cell(cell, what));
            }
        }
        for (int which = 0; which < 9; which++) {
            row.add(x.setting(which));
        }
        for (int stage = 0; stage < 5; stage++) {
            for (int what = 0; what <= 4; what++) {
                row.add(x.stage(stage, what));
            }
        }
        for (int back = 0; back <= 10; back++) {
            for (int what = 0; what <= 2; what++) {
                row.add(x.event(back, what));
            }
        }
        int[] numbers = new int[row.size()];
        for (int i = 0; i < numbers.length; i++) {
            numbers[i] = row.get(i);
        }
        return numbers;
    }

    static void same(String name, ChargeStages x, int[] want) {
        int[] got = row(x);
        for (int i = 0; i < want.length; i++) {
            Check.due(name + ", number " + i, got[i], want[i]);
        }
    }
}
