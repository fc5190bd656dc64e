/**
 * Every piece that there can be, by what the document says of its steps: all lines of the three
 * kinds, and all arcs both ways. No way is worked out here; each step is only held against its rule.
 */
public final class WayTests {
    private static final int LINE = 0, FAST = 1, EVEN = 2, LEFT = 3, RIGHT = 4;
    private static final int MOST = 15, WIDEST = 10, LONGEST = 99;

    private static long wrong = 0;
    private static long pieces = 0;
    private static long likeOnesNearest = 0;

    public static void main(String[] args) {
        for (int a = -MOST; a <= MOST; a++) {
            for (int b = -MOST; b <= MOST; b++) {
                for (int c = -MOST; c <= MOST; c++) {
                    if (a != 0 || b != 0 || c != 0) {
                        lines(new int[] {a, b, c});
                    }
                }
            }
        }
        for (int a = -WIDEST; a <= WIDEST; a++) {
            for (int b = -WIDEST; b <= WIDEST; b++) {
                if (a != 0 || b != 0) {
                    arc(LEFT, a, b);
                    arc(RIGHT, a, b);
                }
            }
        }
        // the document tells which of like ones is taken, but none of them is ever the nearest
        holds("no like ones are the nearest", likeOnesNearest == 0);
        System.out.println(pieces + " pieces, " + wrong + " things wrong");
        if (wrong != 0) {
            System.exit(1);
        }
    }

    private static void holds(String what, boolean so) {
        if (!so) {
            wrong++;
            if (wrong <= 20) {
                System.out.println(what);
            }
        }
    }

    private static String named(int kind, int a, int b, int c) {
        return "lfecr".charAt(kind) + "" + a + "," + b + "," + c + ": ";
    }

    private static PulsedAxes with(int kind, int a, int b, int c, int steps) {
        pieces++;
        PulsedAxes x = new PulsedAxes();
        holds(named(kind, a, b, c) + "is pushed", x.push(kind, a, b, c) == 1);
        holds(named(kind, a, b, c) + "has " + steps + " steps", x.count(3) == steps && x.piece(0, 4) == steps);
        return x;
    }

    /** Does a step from these places, which become those behind it; by how much each axis moved. */
    private static int[] step(PulsedAxes x, int[] at, String name) {
        holds(name + "a step is done", x.step(1) == 1);
        int[] moved = new int[3];
        for (int axis = 0; axis < 3; axis++) {
            moved[axis] = x.place(axis) - at[axis];
            at[axis] += moved[axis];
            holds(name + "a step is 1, 0 or -1", Math.abs(moved[axis]) <= 1);
        }
        holds(name + "a step moves something", moved[0] != 0 || moved[1] != 0 || moved[2] != 0);
        return moved;
    }

    // ---- lines

    private static void lines(int[] way) {
        int turns = Math.max(Math.abs(way[0]), Math.max(Math.abs(way[1]), Math.abs(way[2])));
        line(way, turns);
        fast(way, turns);
        even(way, turns);
    }

    private static void ends(PulsedAxes x, int[] at, String name, int[] way) {
        holds(name + "comes to its end", at[0] == way[0] && at[1] == way[1] && at[2] == way[2]);
        holds(name + "has no more steps", x.step(1) == 0 && x.count(1) == 0 && x.count(0) == 0);
    }

    /** The nearest whole number to k times a way by N; of two as near the one nearer to 0. */
    private static boolean isNearest(int gone, int k, int way, int turns) {
        int off = 2 * Math.abs(gone * turns - k * way);
        return off < turns || off == turns && Math.abs(gone) * turns < k * Math.abs(way);
    }

    private static void line(int[] way, int turns) {
        String name = named(LINE, way[0], way[1], way[2]);
        PulsedAxes x = with(LINE, way[0], way[1], way[2], turns);
        int[] at = new int[3];
        holds(name + "is at most half a step off", 2 * x.off(0) <= x.off(1) && x.off(0) >= 0);
        for (int k = 1; k <= turns; k++) {
            step(x, at, name);
            for (int axis = 0; axis < 3; axis++) {
                holds(name + "axis " + axis + " behind " + k, isNearest(at[axis], k, way[axis], turns));
            }
        }
        ends(x, at, name, way);
    }

    private static void fast(int[] way, int turns) {
        String name = named(FAST, way[0], way[1], way[2]);
        PulsedAxes x = with(FAST, way[0], way[1], way[2], turns);
        int[] at = new int[3];
        for (int k = 1; k <= turns; k++) {
            step(x, at, name);
            for (int axis = 0; axis < 3; axis++) {
                int gone = Math.min(k, Math.abs(way[axis]));
                holds(name + "axis " + axis + " behind " + k, at[axis] == (way[axis] < 0 ? -gone : gone));
            }
        }
        ends(x, at, name, way);
    }

    /** Steps of one axis each; where an axis comes that is not behind the one before, a turn begins. */
    private static void even(int[] way, int turns) {
        String name = named(EVEN, way[0], way[1], way[2]);
        int steps = Math.abs(way[0]) + Math.abs(way[1]) + Math.abs(way[2]);
        PulsedAxes x = with(EVEN, way[0], way[1], way[2], steps);
        int[] at = new int[3];
        int done = 0;
        for (int k = 1; k <= turns; k++) {
            int last = -1;
            while (done < steps && !isBehind(at, k, way, turns)) {
                int[] moved = step(x, at, name);
                int axis = moved[0] != 0 ? 0 : moved[1] != 0 ? 1 : 2;
                holds(name + "one axis moves", Math.abs(moved[0]) + Math.abs(moved[1]) + Math.abs(moved[2]) == 1);
                holds(name + "x ahead of y ahead of z", axis > last);
                last = axis;
                done++;
            }
            holds(name + "is behind turn " + k, isBehind(at, k, way, turns));
        }
        holds(name + "all steps are done", done == steps);
        ends(x, at, name, way);
    }

    private static boolean isBehind(int[] at, int k, int[] way, int turns) {
        return isNearest(at[0], k, way[0], turns) && isNearest(at[1], k, way[1], turns)
                && isNearest(at[2], k, way[2], turns);
    }

    // ---- arcs

    private static void arc(int kind, int a, int b) {
        String name = named(kind, a, b, LONGEST);
        PulsedAxes x = with(kind, a, b, LONGEST, LONGEST);
        int[] at = new int[3];
        for (int k = 1; k <= LONGEST; k++) {
            int u = at[0] - a;
            int v = at[1] - b;
            int dx = Integer.signum(kind == LEFT ? -v : v);
            int dy = Integer.signum(kind == LEFT ? u : -u);
            int[] moved = step(x, at, name);
            boolean along = (moved[0] == 0 || moved[0] == dx) && (moved[1] == 0 || moved[1] == dy);
            holds(name + "goes its way round, step " + k, along && moved[2] == 0);
            int off = off(u + moved[0], v + moved[1], a, b);
            int like = 0;
            for (int[] choice : new int[][] {{dx, 0}, {0, dy}, {dx, dy}}) {
                boolean leftOut = choice[0] == 0 && choice[1] == 0;
                int other = off(u + choice[0], v + choice[1], a, b);
                holds(name + "is as near as may be, step " + k, leftOut || off <= other);
                like += !leftOut && other == off ? 1 : 0;
            }
            // with dx or dy 0, "both" is one of the others once more
            likeOnesNearest += like - (dx == 0 || dy == 0 ? 2 : 1);
        }
        holds(name + "has no more steps", x.step(1) == 0);
    }

    private static int off(int u, int v, int a, int b) {
        return Math.abs(u * u + v * v - (a * a + b * b));
    }
}
