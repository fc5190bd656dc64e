import java.util.Arrays;
import java.util.List;

/** What the sheets should hold, told by the calls that were not refused. */
final class Rows {
    static final int SHEETS = 4;

    private final long[][] items = new long[SHEETS][];
    private final int[] lanes = new int[SHEETS];

    boolean has(int sheet) {
        return items[sheet] != null;
    }

    int lane(int sheet) {
        return lanes[sheet];
    }

    long[] items(int sheet) {
        return items[sheet].clone();
    }

    /** Takes over what a call did that was not refused; calls holds those ahead of it. */
    void take(Call call, List<Call> calls) {
        switch (call.name()) {
            case "sheet":
                items[call.at(0)] = new long[call.at(2)];
                lanes[call.at(0)] = call.at(1);
                break;
            case "drop":
                items[call.at(0)] = null;
                break;
            case "item":
                put(call.at(0), call.at(2), call.numbers()[3]);
                break;
            case "copy":
                long[] taken = Arrays.copyOfRange(items[call.at(0)], call.at(1), call.at(1) + call.at(4));
                System.arraycopy(taken, 0, items[call.at(2)], call.at(3), taken.length);
                break;
            case "film":
                film(call, Call.replay(calls));
                break;
            default:
        }
    }

    private void film(Call call, PulsedAxes ahead) {
        for (int k = 1; k <= call.at(0); k++) {
            int i = call.at(3) + 2 * k - 2;
            put(call.at(1), i, ahead.where(k, 0));
            put(call.at(1), i + 1, ahead.where(k, 1));
        }
    }

    /** A lane's item has 8, 16, 32, 64 bits. */
    private void put(int sheet, int i, long v) {
        int cut = 64 - (8 << lanes[sheet]);
        items[sheet][i] = v << cut >> cut;
    }
}
