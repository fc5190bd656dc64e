import java.util.ArrayList;
import java.util.List;

/**
 * All that can be found out about an object that has been through some calls. Asking may change an
 * object, so each question is put to a new one that the same calls are made on.
 */
final class Probe {
    /** What a call may change: all but the image, the tape, the sheets; and those. */
    enum Part { STATE, IMAGE, TAPE, SHEETS }

    private static final int LAST_KNOWN = 6;
    /** No more than 12 pieces of this length can be pushed, so no place is farther than 180. */
    private static final int FARTHEST = 180;
    private static final int LONGEST = 15;

    private Probe() {
    }

    static String ask(Part part, List<Call> calls, Rows rows) {
        switch (part) {
            case STATE: return stateAndPast(calls);
            case IMAGE: return image(calls);
            case TAPE: return tape(calls);
            default: return sheets(calls, rows);
        }
    }

    private static String stateAndPast(List<Call> calls) {
        StringBuilder told = new StringBuilder();
        for (int undone = 0; undone <= LAST_KNOWN; undone++) {
            PulsedAxes x = Call.replay(calls);
            told.append("\nmay be undone ").append(x.count(5)).append(':');
            for (int k = 0; k < undone; k++) {
                told.append(' ').append(x.undo());
            }
            told.append(state(x));
        }
        return told.toString();
    }

    /** All but what may be undone. */
    static String state(PulsedAxes x) {
        StringBuilder told = new StringBuilder("\n count");
        for (int what = 0; what <= 4; what++) {
            told.append(' ').append(x.count(what));
        }
        told.append("; draw ").append(x.seed(0)).append("; place");
        for (int axis = 0; axis < 3; axis++) {
            told.append(' ').append(x.place(axis));
        }
        for (int k = -1; k < x.count(0); k++) {
            told.append("; piece ").append(k).append(':');
            for (int what = 0; what <= 4; what++) {
                told.append(' ').append(x.piece(k, what));
            }
        }
        told.append("; where");
        for (int n = 1; n <= 16; n++) {
            told.append(' ').append(x.where(n, 0)).append(',').append(x.where(n, 1)).append(',').append(x.where(n, 2));
        }
        return told.append("; reach ").append(x.reach(0, 1)).append(',').append(x.reach(1, 1)).toString();
    }

    private static String image(List<Call> calls) {
        List<Call> restored = new ArrayList<>(calls);
        restored.add(new Call("restore"));
        long answer = new Call("restore").on(Call.replay(calls));
        return answer == 1 ? stateAndPast(restored) : "\nno image: " + answer;
    }

    private static String tape(List<Call> calls) {
        PulsedAxes x = Call.replay(calls);
        StringBuilder told = new StringBuilder("\ntype(32): ").append(x.type(' '));
        int planned = x.plan();
        told.append(", plan(): ").append(planned);
        for (int k = 0; k < planned; k++) {
            for (int what = 0; what <= 4; what++) {
                told.append(' ').append(x.piece(k, what));
            }
        }
        return told.toString();
    }

    private static String sheets(List<Call> calls, Rows rows) {
        StringBuilder told = new StringBuilder();
        for (int sheet = 0; sheet < Rows.SHEETS; sheet++) {
            PulsedAxes x = Call.replay(calls);
            told.append("\nsheet ").append(sheet).append(':');
            for (int lane = 0; lane < 4; lane++) {
                told.append(' ').append(x.item(sheet, lane, -1, 0));
            }
            told.append(", it had ").append(x.drop(sheet));
            if (rows.has(sheet)) {
                told.append(items(calls, sheet, rows.lane(sheet), rows.items(sheet)));
            }
        }
        return told.toString();
    }

    /** Which of these items a sheet holds: came alone tells of them, by places that must be gone to. */
    static String items(List<Call> calls, int sheet, int lane, long... due) {
        PulsedAxes x = Call.replay(calls);
        int scratch = sheet == 0 ? 1 : 0;
        StringBuilder told = new StringBuilder(", holds");
        for (int i = 0; i < due.length; i++) {
            if (Math.abs(due[i]) > FARTHEST) {
                told.append(" (").append(due[i]).append(')');
                continue;
            }
            int more = i + 1 < due.length && Math.abs(due[i + 1]) <= FARTHEST ? 1 : 0;
            x.sheet(scratch, lane, 2);
            int copied = x.copy(sheet, i, scratch, 0, 1 + more);
            goTo(x, (int) due[i], more == 1 ? (int) due[i + 1] : 0);
            boolean so = copied == 1 + more && (x.came(scratch, lane, 0, 1) & 1) == 1;
            told.append(' ').append(so ? "" : "not ").append(due[i]);
            if (more == 1) {
                told.append(' ').append(so ? "" : "not ").append(due[i + 1]);
                i++;
            }
        }
        return told.toString();
    }

    /** An empty plan, lines to a place, and one more that waits and moves neither x nor y. */
    private static void goTo(PulsedAxes x, int toX, int toY) {
        // the first may be a fault, or a plan that was on the tape; then the tape is empty
        x.plan();
        x.plan();
        for (int fromX = 0, fromY = 0; fromX != toX || fromY != toY;) {
            int a = Math.max(-LONGEST, Math.min(LONGEST, toX - fromX));
            int b = Math.max(-LONGEST, Math.min(LONGEST, toY - fromY));
            x.push(1, a, b, 0);
            fromX += a;
            fromY += b;
        }
        x.step(FARTHEST);
        x.push(0, 0, 0, 1);
    }
}
