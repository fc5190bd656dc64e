/**
 * Each promise by hand: ordinary inputs, the edges that the document names, wrong inputs.
 * The method promiseN tests promise N; what is due was worked out on paper from the document.
 */
public final class PromiseTests {
    private static final int BAD = -1000001, NOT = -1000002, FULL = -1000003, NONE = -1000004;
    private static final int NULL = -1000011, CAST = -1000012, INDEX = -1000013, SIZE = -1000014;
    private static final int LINE = 0, FAST = 1, EVEN = 2, LEFT = 3, RIGHT = 4;
    private static final int MIN = Integer.MIN_VALUE, MAX = Integer.MAX_VALUE;

    private static int wrong = 0;
    private static int tested = 0;

    private static void due(int promise, String call, long got, long want) {
        tested++;
        if (got != want) {
            wrong++;
            System.out.println("promise " + promise + ": " + call + " answered " + got + ", due is " + want);
        }
    }

    public static void main(String[] args) {
        promise1();
        promise2();
        promise3();
        promise4();
        promise5();
        promise5Faults();
        promise5Many();
        promise6();
        promise7();
        promise8();
        promise9();
        promise10();
        promise11();
        promise12();
        promise12Kinds();
        promise12Row();
        promise13();
        promise14();
        promise15();
        promise16();
        promise17();
        promise18();
        promise19();
        promise20();
        promise21();
        promise22();
        promise23();
        promise24();
        promise25();
        promise25Row();
        promise26();
        promise27();
        promise28();
        promise29();
        promise30();
        System.out.println(tested + " answers, " + wrong + " of them wrong");
        if (wrong != 0) {
            System.exit(1);
        }
    }

    // ---- helpers

    private static void write(PulsedAxes x, String text) {
        for (int k = 0; k < text.length(); k++) {
            x.type(text.charAt(k));
        }
    }

    private static int told(PulsedAxes x, String text) {
        write(x, text);
        return x.plan();
    }

    private static PulsedAxes with(String text) {
        PulsedAxes x = new PulsedAxes();
        if (told(x, text) < 0) {
            throw new IllegalArgumentException(text);
        }
        return x;
    }

    private static void placesDue(int promise, String when, PulsedAxes x, int... places) {
        for (int axis = 0; axis < places.length; axis++) {
            due(promise, when + ": place(" + axis + ")", x.place(axis), places[axis]);
        }
    }

    /** Does the steps one by one; places holds three numbers a step. */
    private static void wayDue(int promise, String text, int... places) {
        PulsedAxes x = with(text);
        int steps = places.length / 3;
        for (int n = 1; n <= steps; n++) {
            for (int axis = 0; axis < 3; axis++) {
                due(16, text + ": where(" + n + ", " + axis + ")", x.where(n, axis), places[3 * n - 3 + axis]);
            }
        }
        due(6, text + ": count(3)", x.count(3), steps);
        for (int n = 1; n <= steps; n++) {
            due(promise, text + ": step(1)", x.step(1), 1);
            placesDue(promise, text + " behind " + n, x,
                    places[3 * n - 3], places[3 * n - 2], places[3 * n - 1]);
        }
        due(promise, text + ": step(1) at the end", x.step(1), 0);
    }

    private static void itemsDue(int promise, String when, PulsedAxes x, int sheet, int lane, int... items) {
        // a sheet has no call that reads it: a line of one step, told to stand where the items say, does
        for (int k = 0; k + 1 < items.length; k += 2) {
            due(promise, when + ": items " + k + ", " + (k + 1) + " of sheet " + sheet,
                    reads(x, sheet, lane, k, items[k], items[k + 1]) ? 1 : 0, 1);
        }
    }

    /** Whether two items are these numbers (-15 .. 15), found out by came on a plan made for it. */
    private static boolean reads(PulsedAxes x, int sheet, int lane, int i, int first, int second) {
        x.image();
        told(x, "f" + first + "," + second + ",15");
        x.step(15);
        x.push(LINE, 0, 0, 1);
        boolean so = (x.came(sheet, lane, i, 1) & 1) != 0;
        x.restore();
        return so;
    }

    // ---- 1 pieces

    private static void promise1() {
        PulsedAxes x = new PulsedAxes();
        for (int what = 0; what <= 5; what++) {
            due(1, "count(" + what + ")", x.count(what), 0);
        }
        placesDue(1, "new", x, 0, 0, 0);
        due(1, "piece(0, 0)", x.piece(0, 0), BAD);
        due(1, "piece(-1, 0)", x.piece(-1, 0), NONE);
        due(1, "undo()", x.undo(), NONE);
        due(1, "restore()", x.restore(), NONE);
        due(1, "seed(1)", x.seed(1), 1);
        for (int sheet = 0; sheet <= 3; sheet++) {
            due(1, "drop(" + sheet + ")", x.drop(sheet), NULL);
        }
        due(1, "type(108)", x.type('l'), 1);
        PulsedAxes other = new PulsedAxes();
        other.push(LINE, 1, 1, 1);
        due(1, "count(0), another one being used", x.count(0), 0);
    }

    private static void promise2() {
        PulsedAxes x = with("l1,-2,3");
        x.step(3);
        placesDue(2, "l1,-2,3 done", x, 1, -2, 3);
        due(2, "place(-1)", x.place(-1), BAD);
        due(2, "place(3)", x.place(3), BAD);
        due(2, "place(MIN)", x.place(MIN), BAD);
        due(2, "place(MAX)", x.place(MAX), BAD);
    }

    private static void promise3() {
        PulsedAxes x = with("l3,-4,5;f1,2,-3;e-1,2,3;c4,-5,99;r-6,7,8");
        int[][] pieces = {
            {LINE, 3, -4, 5, 5}, {FAST, 1, 2, -3, 3}, {EVEN, -1, 2, 3, 6}, {LEFT, 4, -5, 99, 99}, {RIGHT, -6, 7, 8, 8}};
        for (int k = 0; k < 5; k++) {
            for (int what = 0; what <= 4; what++) {
                due(3, "piece(" + k + ", " + what + ")", x.piece(k, what), pieces[k][what]);
            }
        }
        due(3, "piece(-1, 4), nothing is now", x.piece(-1, 4), NONE);
        due(3, "piece(-1, 5), BAD ahead of NONE", x.piece(-1, 5), BAD);
        due(3, "piece(-1, -1)", x.piece(-1, -1), BAD);
        due(3, "piece(5, 0)", x.piece(5, 0), BAD);
        due(3, "piece(-2, 0)", x.piece(-2, 0), BAD);
        due(3, "piece(0, 5)", x.piece(0, 5), BAD);
        due(3, "piece(0, -1)", x.piece(0, -1), BAD);
        due(3, "piece(MAX, 0)", x.piece(MAX, 0), BAD);
        due(3, "piece(MIN, 0)", x.piece(MIN, 0), BAD);
        x.step(2);
        int[] now = {LINE, 3, -4, 5, 3};
        for (int what = 0; what <= 4; what++) {
            due(3, "piece(-1, " + what + ")", x.piece(-1, what), now[what]);
        }
        due(3, "piece(0, 0), one is begun", x.piece(0, 0), FAST);
        due(3, "piece(4, 0), one is begun", x.piece(4, 0), BAD);
        x.step(3);
        due(3, "piece(-1, 0), the first is done", x.piece(-1, 0), NONE);
        x.step(5);
        due(3, "piece(-1, 4) of an even one", x.piece(-1, 4), 4);
        x.step(4 + 1);
        due(3, "piece(-1, 4) of an arc", x.piece(-1, 4), 98);
    }

    private static void promise4() {
        PulsedAxes x = new PulsedAxes();
        due(4, "type(32)", x.type(32), 1);
        due(4, "type(126)", x.type(126), 2);
        due(4, "type(31)", x.type(31), BAD);
        due(4, "type(127)", x.type(127), BAD);
        due(4, "type(MIN)", x.type(MIN), BAD);
        due(4, "type(65536 + 108)", x.type(65536 + 108), BAD);
        for (int n = 3; n <= 140; n++) {
            due(4, "type(97)", x.type(97), n);
        }
        due(4, "type(97) on a full tape", x.type(97), FULL);
        due(4, "type(31) on a full tape", x.type(31), BAD);
        due(4, "plan()", x.plan(), -1000020 - 1);
        due(4, "type(97) on an empty tape", x.type(97), 1);
    }

    private static void promise5() {
        PulsedAxes x = new PulsedAxes();
        due(5, "plan() on an empty tape", x.plan(), 0);
        due(5, "three blanks", told(x, "   "), 0);
        due(5, "plan", told(x, " l 1 ,- 2,03 ; r-10,10,99 "), 2);
        int[][] pieces = {{LINE, 1, -2, 3, 3}, {RIGHT, -10, 10, 99, 99}};
        for (int k = 0; k < 2; k++) {
            for (int what = 0; what <= 4; what++) {
                due(5, "piece(" + k + ", " + what + ")", x.piece(k, what), pieces[k][what]);
            }
        }
        x.seed(77);
        x.sheet(2, 1, 5);
        x.image();
        x.step(1);
        x.hold();
        due(5, "plan", told(x, "e-0,00,-15"), 1);
        due(5, "count(1)", x.count(1), 0);
        due(5, "count(2)", x.count(2), 0);
        due(5, "count(5)", x.count(5), 0);
        due(5, "undo()", x.undo(), NONE);
        placesDue(5, "behind a plan", x, 0, 0, 0);
        due(5, "piece(0, 3)", x.piece(0, 3), -15);
        due(5, "seed(1): the draw stays", x.seed(1), 77);
        due(5, "drop(2): sheets stay", x.drop(2), 5);
        due(5, "restore(): the image stays", x.restore(), 1);
        due(5, "count(0)", x.count(0), 2);
        due(5, "an empty plan", told(x, ""), 0);
        due(5, "count(0)", x.count(0), 0);
    }

    private static void promise5Faults() {
        String[] texts = {
            "x", " x", ";", "1", "L1,2,3", "l", "l ", "l,", "l1", "l1 ", "l1;", "l1 2,3,4", "l1,", "l1,,", "l1,2",
            "l1,2,", "l1,2,;", "l1,2,3;", "l1,2,3; ", "l1,2,3,", "l1,2,3 4", "l1,2,345", "l123,4,5", "l--1,2,3",
            "l-,2,3", "l1-,2,3", "l+1,2,3", "l- 1 -,2,3", "l1,2,3 l1,2,3", "l1,2,3;;", "l1,2,3;x", "l1.5,2,3",
            "l0,0,0", "l16,0,0", " l0,-16,0", "f0,0,16", "e0,0,0", "c0,0,5", "c11,0,5", "c0,-11,5", "c1,0,0",
            "c1,1,-1", "r0,0,1", "r1,1", "l1,2,3; c1,0,0", "l1,2,3;l1,2,16;x", "l1,2,16x", "l16,2", "l1,2,160"};
        int[] places = {
            0, 1, 0, 0, 0, 1, 2, 1, 2, 3, 2, 3, 3, 3, 4,
            5, 5, 7, 8, 6, 7, 7, 3, 2,
            2, 2, 1, 5, 7, 7, 7, 2,
            0, 0, 1, 0, 0, 0, 0, 0, 0,
            0, 0, 4, 8, 7, 0, 5, 7};
        PulsedAxes x = with("l5,0,0;f1,1,1");
        x.step(2);
        x.hold();
        for (int k = 0; k < texts.length; k++) {
            due(5, "plan \"" + texts[k] + "\"", told(x, texts[k]), -1000020 - places[k]);
        }
        due(5, "count(0) behind faults", x.count(0), 1);
        due(5, "count(3) behind faults", x.count(3), 4);
        due(5, "count(2) behind faults", x.count(2), 1);
        due(5, "count(5) behind faults", x.count(5), 2);
        placesDue(5, "behind faults", x, 2, 0, 0);
        due(5, "type(108): the tape is empty behind a fault", x.type('l'), 1);
    }

    private static void promise5Many() {
        StringBuilder twelve = new StringBuilder("l1,1,1");
        for (int k = 1; k < 12; k++) {
            twelve.append(";l1,1,1");
        }
        PulsedAxes x = new PulsedAxes();
        due(5, "a plan of 12", told(x, twelve.toString()), 12);
        due(5, "a plan of 13", told(x, twelve + ";l1,1,1"), -1000020 - 83);
        due(5, "a plan of 12 and ;", told(x, twelve + " ;"), -1000020 - 84);
        due(5, "count(0)", x.count(0), 12);
    }

    private static void promise6() {
        PulsedAxes x = with("l3,0,0;r1,0,7;e1,1,1");
        due(6, "count(0)", x.count(0), 3);
        due(6, "count(1)", x.count(1), 0);
        due(6, "count(2)", x.count(2), 0);
        due(6, "count(3)", x.count(3), 13);
        due(6, "count(4)", x.count(4), 1 + 16 + 4);
        due(6, "count(5)", x.count(5), 0);
        x.step(1);
        x.hold();
        due(6, "count(0)", x.count(0), 2);
        due(6, "count(1)", x.count(1), 1);
        due(6, "count(2)", x.count(2), 1);
        due(6, "count(3)", x.count(3), 12);
        due(6, "count(4): what is now does not wait", x.count(4), 16 + 4);
        due(6, "count(5)", x.count(5), 2);
        due(6, "count(6)", x.count(6), BAD);
        due(6, "count(-1)", x.count(-1), BAD);
        due(6, "count(MIN)", x.count(MIN), BAD);
    }

    // ---- what is done

    private static final int[][] GOOD_PIECES = {
        {LINE, 15, -15, 15}, {LINE, 0, 0, -1}, {FAST, -15, 0, 0}, {EVEN, 0, 15, 0}, {LEFT, 10, -10, 99},
        {LEFT, 0, 1, 1}, {RIGHT, -10, 10, 1}, {RIGHT, 1, 0, 99}};

    private static final int[][] BAD_PIECES = {
        {-1, 1, 1, 1}, {5, 1, 1, 1}, {MIN, 1, 1, 1}, {MAX, 1, 1, 1}, {LINE, 0, 0, 0}, {LINE, 16, 0, 0},
        {LINE, 0, -16, 0}, {LINE, 0, 0, 16}, {LINE, 1, 1, MIN}, {FAST, 0, 0, 0}, {FAST, -16, 1, 1},
        {EVEN, 0, 0, 0}, {EVEN, 1, 16, 1}, {LEFT, 0, 0, 1}, {LEFT, 11, 0, 1}, {LEFT, 0, -11, 1},
        {LEFT, 1, 1, 0}, {LEFT, 1, 1, 100}, {LEFT, MIN, 1, 1}, {RIGHT, 0, 0, 5}, {RIGHT, -11, 0, 1},
        {RIGHT, 0, 11, 1}, {RIGHT, 1, 1, -1}, {RIGHT, 1, 1, 100}, {RIGHT, 1, MAX, 5}};

    private static void promise7() {
        PulsedAxes x = new PulsedAxes();
        int n = 0;
        for (int[] p : GOOD_PIECES) {
            n++;
            due(7, "push of kind " + p[0], x.push(p[0], p[1], p[2], p[3]), n);
            due(7, "piece(last, 0)", x.piece(n - 1, 0), p[0]);
            due(7, "piece(last, 1)", x.piece(n - 1, 1), p[1]);
            due(7, "piece(last, 2)", x.piece(n - 1, 2), p[2]);
            due(7, "piece(last, 3)", x.piece(n - 1, 3), p[3]);
        }
        for (int[] p : BAD_PIECES) {
            due(7, "push of " + p[0] + " " + p[1] + " " + p[2] + " " + p[3], x.push(p[0], p[1], p[2], p[3]), BAD);
        }
        due(7, "count(0)", x.count(0), n);
        for (n = n + 1; n <= 12; n++) {
            due(7, "push", x.push(LINE, 1, 0, 0), n);
        }
        due(7, "the 13th push", x.push(LINE, 1, 0, 0), FULL);
        due(7, "a BAD 13th push", x.push(LINE, 0, 0, 0), BAD);
        due(7, "count(0)", x.count(0), 12);
        x.step(1);
        due(7, "push, one being now", x.push(LINE, 1, 0, 0), 12);
        due(7, "the next push", x.push(LINE, 1, 0, 0), FULL);
    }

    private static void promise8() {
        PulsedAxes x = new PulsedAxes();
        int n = 0;
        for (int[] p : GOOD_PIECES) {
            n++;
            due(8, "jump of kind " + p[0], x.jump(p[0], p[1], p[2], p[3]), n);
            due(8, "piece(0, 0)", x.piece(0, 0), p[0]);
            due(8, "piece(0, 1)", x.piece(0, 1), p[1]);
            due(8, "piece(0, 2)", x.piece(0, 2), p[2]);
            due(8, "piece(0, 3)", x.piece(0, 3), p[3]);
            due(8, "piece(last, 1)", x.piece(n - 1, 1), 15);
        }
        for (int[] p : BAD_PIECES) {
            due(8, "jump of " + p[0] + " " + p[1] + " " + p[2] + " " + p[3], x.jump(p[0], p[1], p[2], p[3]), BAD);
        }
        for (n = n + 1; n <= 12; n++) {
            due(8, "jump", x.jump(LINE, 1, 0, 0), n);
        }
        due(8, "the 13th jump", x.jump(LINE, 1, 0, 0), FULL);
        due(8, "a BAD 13th jump", x.jump(LEFT, 0, 0, 1), BAD);

        PulsedAxes y = with("l2,0,0;l0,1,0");
        y.step(1);
        due(8, "jump, one being now", y.jump(FAST, 0, 0, 1), 2);
        y.step(1);
        placesDue(8, "what is now goes on first", y, 2, 0, 0);
        y.step(1);
        placesDue(8, "then the one that jumped", y, 2, 0, 1);
        y.step(1);
        placesDue(8, "then the other", y, 2, 1, 1);
    }

    private static void promise9() {
        PulsedAxes x = with("l5,0,0;l1,0,0;f1,0,0;l2,0,0;e1,0,0;r1,0,3;l3,0,0");
        x.step(1);
        due(9, "purge(5)", x.purge(5), BAD);
        due(9, "purge(-1)", x.purge(-1), BAD);
        due(9, "purge(32): no shift goes round", x.purge(32), BAD);
        due(9, "purge(3)", x.purge(LEFT), NOT);
        due(9, "purge(0)", x.purge(LINE), 3);
        due(9, "count(0)", x.count(0), 3);
        due(9, "count(1): what is now stays", x.count(1), 1);
        due(9, "piece(0, 0)", x.piece(0, 0), FAST);
        due(9, "piece(1, 0)", x.piece(1, 0), EVEN);
        due(9, "piece(2, 0)", x.piece(2, 0), RIGHT);
        due(9, "purge(0) again", x.purge(LINE), NOT);
        due(9, "purge(4)", x.purge(RIGHT), 1);
        due(9, "count(5): refusals leave nothing to undo", x.count(5), 3);
        due(9, "undo()", x.undo(), 2);
        due(9, "undo()", x.undo(), 1);
        due(9, "piece(2, 1)", x.piece(2, 1), 2);
        due(9, "piece(5, 1)", x.piece(5, 1), 3);
    }

    private static void promise10() {
        PulsedAxes x = with("e3,1,0;l0,2,0");
        due(10, "stop(), nothing is now", x.stop(), NOT);
        x.step(1);
        due(10, "stop()", x.stop(), 3);
        due(10, "stop() again", x.stop(), NOT);
        due(10, "count(1)", x.count(1), 0);
        due(10, "count(3)", x.count(3), 2);
        placesDue(10, "places stay", x, 1, 0, 0);
        x.step(1);
        placesDue(10, "the next goes from there", x, 1, 1, 0);
        due(10, "count(5): refusals leave nothing to undo", x.count(5), 3);
        x.undo();
        x.undo();
        due(10, "piece(-1, 4) behind undo", x.piece(-1, 4), 3);
    }

    private static void promise11() {
        PulsedAxes x = with("l2,0,0");
        due(11, "hold()", x.hold(), 1);
        due(11, "step(1)", x.step(1), NOT);
        due(11, "count(2)", x.count(2), 1);
        due(11, "where(1, 0), held", x.where(1, 0), 1);
        due(11, "hold()", x.hold(), 0);
        due(11, "step(1)", x.step(1), 1);
        due(11, "count(5)", x.count(5), 3);
        x.undo();
        due(11, "undo()", x.undo(), 1);
        due(11, "count(2) behind undo", x.count(2), 1);
        due(11, "undo()", x.undo(), 0);
        due(11, "count(2) behind undo", x.count(2), 0);
    }

    private static void promise12() {
        PulsedAxes x = with("c3,0,99;c3,0,99;c3,0,99");
        due(12, "step(0)", x.step(0), BAD);
        due(12, "step(-1)", x.step(-1), BAD);
        due(12, "step(201)", x.step(201), BAD);
        due(12, "step(MAX)", x.step(MAX), BAD);
        due(12, "count(5)", x.count(5), 0);
        due(12, "step(200)", x.step(200), 200);
        due(12, "count(5)", x.count(5), 1);
        due(12, "step(200)", x.step(200), 97);
        due(12, "step(5), there is none", x.step(5), 0);
        due(12, "count(5)", x.count(5), 3);
        due(12, "undo()", x.undo(), 2);
        due(12, "undo()", x.undo(), 1);
        due(12, "count(3)", x.count(3), 97);
        x.hold();
        due(12, "step(0), held", x.step(0), BAD);
        due(12, "step(1), held", x.step(1), NOT);
    }

    private static void promise12Kinds() {
        wayDue(12, "l5,3,-2", 1, 1, 0, 2, 1, -1, 3, 2, -1, 4, 2, -2, 5, 3, -2);
        wayDue(12, "l4,-2,1", 1, 0, 0, 2, -1, 0, 3, -1, 1, 4, -2, 1);
        wayDue(12, "l2,1,-1", 1, 0, 0, 2, 1, -1);
        wayDue(12, "l0,-6,3", 0, -1, 0, 0, -2, 1, 0, -3, 1, 0, -4, 2, 0, -5, 2, 0, -6, 3);
        wayDue(12, "f5,3,-2", 1, 1, -1, 2, 2, -2, 3, 3, -2, 4, 3, -2, 5, 3, -2);
        wayDue(12, "f0,1,-3", 0, 1, -1, 0, 1, -2, 0, 1, -3);
        wayDue(12, "e2,1,-2", 1, 0, 0, 1, 0, -1, 2, 0, -1, 2, 1, -1, 2, 1, -2);
        wayDue(12, "e0,0,2", 0, 0, 1, 0, 0, 2);
        wayDue(12, "e-1,-1,-1", -1, 0, 0, -1, -1, 0, -1, -1, -1);
        wayDue(12, "c2,0,13", 0, -1, 0, 1, -2, 0, 2, -2, 0, 3, -2, 0, 4, -1, 0, 4, 0, 0, 4, 1, 0,
                3, 2, 0, 2, 2, 0, 1, 2, 0, 0, 1, 0, 0, 0, 0, 0, -1, 0);
        wayDue(12, "r2,0,13", 0, 1, 0, 1, 2, 0, 2, 2, 0, 3, 2, 0, 4, 1, 0, 4, 0, 0, 4, -1, 0,
                3, -2, 0, 2, -2, 0, 1, -2, 0, 0, -1, 0, 0, 0, 0, 0, 1, 0);
        wayDue(12, "c0,-1,4", -1, 0, 0, -1, -1, 0, -1, -2, 0, 0, -2, 0);
        wayDue(12, "r-1,-1,4", 0, -1, 0, 0, -2, 0, -1, -2, 0, -2, -2, 0);
    }

    private static void promise12Row() {
        PulsedAxes x = with("l2,0,0;e0,1,1;r0,1,2");
        due(12, "step(3), over the end of a piece", x.step(3), 3);
        placesDue(12, "then", x, 2, 1, 0);
        due(12, "count(1)", x.count(1), 1);
        due(12, "count(0)", x.count(0), 1);
        due(12, "step(1): the piece's last one", x.step(1), 1);
        due(12, "count(1)", x.count(1), 0);
        due(12, "step(200)", x.step(200), 2);
        // about (2, 2) from (2, 1), the clock's way: x to where v has its sign
        placesDue(12, "at the end", x, 1, 2, 1);
    }

    private static void promise13() {
        PulsedAxes x = new PulsedAxes();
        due(13, "drift(0)", x.drift(0), BAD);
        due(13, "drift(41)", x.drift(41), BAD);
        due(13, "drift(MIN)", x.drift(MIN), BAD);
        due(13, "seed", x.seed(1), 1);
        // 1 becomes 1103527590: x 16838, not divisible by 3: a step, and there is none
        due(13, "drift(1)", x.drift(1), 0);
        due(13, "count(5)", x.count(5), 1);
        due(13, "seed", x.seed(1103527590), 1103527590);
        // then come x 5758 (no), 10113 (3371 by 3 leaves 2; 632 by 9 leaves 2; 39 by 9 leaves 3)
        due(13, "drift(2)", x.drift(2), 4);
        due(13, "piece(0, 0)", x.piece(0, 0), EVEN);
        due(13, "piece(0, 1)", x.piece(0, 1), -2);
        due(13, "piece(0, 2)", x.piece(0, 2), -1);
        due(13, "piece(0, 3)", x.piece(0, 3), 1);
        due(13, "count(5)", x.count(5), 3);
        x.hold();
        // then x 17515, 31051, 5627: three steps, held or not
        due(13, "drift(3), held", x.drift(3), 1);
        placesDue(13, "behind them", x, -2, -1, 0);
        due(13, "count(2)", x.count(2), 1);
        due(13, "drift(40)", x.drift(40) >= 0 ? 1 : 0, 1);
        due(13, "count(5)", x.count(5), 6);
        promise13Full();
    }

    /** Nothing is pushed onto a full row, and that turn is still one to be undone. */
    private static void promise13Full() {
        PulsedAxes x = new PulsedAxes();
        for (int k = 0; k < 12; k++) {
            x.push(LINE, 3, 0, 0);
        }
        // behind two turns from here comes x 10113, which is divisible by 3
        x.seed(1103527590);
        due(13, "drift(1): a step", x.drift(1), 35);
        x.push(LINE, 1, 0, 0);
        due(13, "drift(1): no room", x.drift(1), 36);
        due(13, "count(0)", x.count(0), 12);
        due(13, "count(5)", x.count(5), 6);
        int draw = x.seed(0);
        due(13, "the draw by 65536", draw >> 16, 10113);
        due(13, "undo()", x.undo(), 5);
        due(13, "count(3)", x.count(3), 36);
        due(13, "the draw by 65536, undone", x.seed(0) >> 16, 5758);
    }

    private static void promise14() {
        PulsedAxes x = new PulsedAxes();
        due(14, "undo()", x.undo(), NONE);
        x.push(LINE, 1, 0, 0);
        x.jump(FAST, 2, 0, 0);
        x.step(1);
        x.stop();
        x.purge(LINE);
        x.hold();
        due(14, "count(5)", x.count(5), 6);
        x.drift(1);
        due(14, "count(5): no more than 6", x.count(5), 6);
        x.seed(99);
        due(14, "undo() of a drift", x.undo(), 5);
        due(14, "seed: as ahead of the drift, whatever was told since", x.seed(1), 1);
        due(14, "count(2)", x.count(2), 1);
        due(14, "undo() of a hold", x.undo(), 4);
        due(14, "count(2)", x.count(2), 0);
        due(14, "count(0)", x.count(0), 0);
        due(14, "undo() of a purge", x.undo(), 3);
        due(14, "piece(0, 0)", x.piece(0, 0), LINE);
        due(14, "count(1)", x.count(1), 0);
        due(14, "undo() of a stop", x.undo(), 2);
        due(14, "piece(-1, 4)", x.piece(-1, 4), 1);
        placesDue(14, "ahead of the stop", x, 1, 0, 0);
        due(14, "undo() of a step", x.undo(), 1);
        placesDue(14, "ahead of the step", x, 0, 0, 0);
        due(14, "count(0)", x.count(0), 2);
        due(14, "piece(0, 0)", x.piece(0, 0), FAST);
        due(14, "undo() of a jump", x.undo(), 0);
        due(14, "count(0)", x.count(0), 1);
        due(14, "piece(0, 0)", x.piece(0, 0), LINE);
        due(14, "undo(): the push is lost", x.undo(), NONE);
        due(14, "count(0)", x.count(0), 1);
        promise14Stays();
    }

    private static void promise14Stays() {
        PulsedAxes x = new PulsedAxes();
        x.push(LINE, 1, 0, 0);
        x.type('f');
        x.sheet(1, 0, 3);
        x.image();
        x.push(LINE, 2, 0, 0);
        due(14, "undo()", x.undo(), 1);
        due(14, "undo()", x.undo(), 0);
        due(14, "type: the tape stays", x.type('f'), 2);
        due(14, "drop: the sheets stay", x.drop(1), 3);
        due(14, "restore: the image stays", x.restore(), 1);
        due(14, "count(0)", x.count(0), 1);
        x.step(1);
        told(x, "");
        due(14, "a fault leaves what may be undone", x.count(5), 2);
        told(x, "");
        due(14, "a plan told leaves nothing", x.undo(), NONE);
    }

    private static void promise15() {
        PulsedAxes x = new PulsedAxes();
        due(15, "seed(0)", x.seed(0), 1);
        due(15, "seed(-1)", x.seed(-1), BAD);
        due(15, "seed(MIN)", x.seed(MIN), BAD);
        due(15, "seed(MAX)", x.seed(MAX), 0);
        due(15, "seed(5)", x.seed(5), MAX);
        due(15, "count(5): nothing to undo", x.count(5), 0);
        x.seed(0);
        x.drift(1);
        due(15, "seed behind a turn from 0", x.seed(MAX), 12345);
        x.drift(1);
        // 2147483647 times 1103515245 and 12345 more, the lowest 31 bits
        due(15, "seed behind a turn from MAX", x.seed(1), 2147483648L - 1103515245L + 12345L);
    }

    // ---- 2 looked for

    private static void promise16() {
        PulsedAxes x = with("l2,1,0;e0,1,-1");
        int[][] ways = {{0, 0, 0}, {1, 0, 0}, {2, 1, 0}, {2, 2, 0}, {2, 2, -1}, {2, 2, -1}};
        for (int n = 0; n < ways.length; n++) {
            for (int axis = 0; axis < 3; axis++) {
                due(16, "where(" + n + ", " + axis + ")", x.where(n, axis), ways[n][axis]);
            }
        }
        due(16, "where(MAX, 1)", x.where(MAX, 1), 2);
        due(16, "where(-1, 0)", x.where(-1, 0), BAD);
        due(16, "where(MIN, 0)", x.where(MIN, 0), BAD);
        due(16, "where(0, 3)", x.where(0, 3), BAD);
        due(16, "where(0, -1)", x.where(0, -1), BAD);
        placesDue(16, "nothing is changed", x, 0, 0, 0);
        x.step(3);
        x.hold();
        due(16, "where(1, 2) amid an even one, held", x.where(1, 2), -1);
        due(16, "where(0, 2)", x.where(0, 2), 0);
        due(16, "count(3)", x.count(3), 1);
        promise16Longest();
    }

    /** The most steps that there can be: 98 of an arc that is now, and 12 times 99. */
    private static void promise16Longest() {
        PulsedAxes x = new PulsedAxes();
        x.push(LEFT, 1, 0, 99);
        x.step(1);
        for (int k = 0; k < 11; k++) {
            x.push(LEFT, 10, 10, 99);
        }
        x.push(RIGHT, 1, 0, 99);
        due(16, "count(3)", x.count(3), 98 + 12 * 99);
        int end = x.where(MAX, 0);
        int ahead = x.where(98 + 12 * 99 - 1, 1);
        due(16, "where(the last, 0)", x.where(98 + 12 * 99, 0), end);
        due(18, "next(1, the last)", x.next(1, 98 + 12 * 99 - 1),
                x.where(MAX, 1) == ahead ? NONE : 98 + 12 * 99 - 1);
        int steps = 0;
        for (int k = 0; k < 7; k++) {
            steps += x.step(200);
        }
        due(16, "steps done", steps, 98 + 12 * 99);
        due(16, "place(0)", x.place(0), end);
    }

    private static void promise17() {
        PulsedAxes x = with("l2,1,0;e0,2,-1;f0,0,3");
        // x: 1 1 0 0 0 0 0 0; y: 0 1 1 1 0 0 0 0 (the even one: y, y, z); z: 0 0 0 0 1 1 1 1
        int[][] answers = {{2, 6}, {3, 4}, {4, 4}};
        for (int axis = 0; axis < 3; axis++) {
            due(17, "pulses(" + axis + ", 0)", x.pulses(axis, 0), answers[axis][0]);
            due(17, "pulses(" + axis + ", 1)", x.pulses(axis, 1), answers[axis][1]);
        }
        x.step(1);
        x.hold();
        due(17, "pulses(0, 0) from now on", x.pulses(0, 0), 1);
        due(17, "pulses(2, 1) from now on", x.pulses(2, 1), 3);
        due(17, "pulses(3, 0)", x.pulses(3, 0), BAD);
        due(17, "pulses(-1, 0)", x.pulses(-1, 0), BAD);
        due(17, "pulses(0, 2)", x.pulses(0, 2), BAD);
        due(17, "pulses(0, -1)", x.pulses(0, -1), BAD);
        due(17, "pulses(0, 1), it always moves", with("l3,1,0").pulses(0, 1), 0);
        due(17, "pulses(0, 1), no steps", new PulsedAxes().pulses(0, 1), 0);
        due(17, "pulses(0, 0), no steps", new PulsedAxes().pulses(0, 0), 0);
        due(17, "pulses(1, 1), the longest is amid others", with("l2,2,0;l3,0,0;l1,1,0;l2,0,0").pulses(1, 1), 3);
    }

    private static void promise18() {
        PulsedAxes x = with("l2,1,0;e0,2,-1;f0,0,3");
        int[] y = {1, 1, 2, 3, NONE, NONE};
        int[] z = {4, 4, 4, 4, 4, 5, 6, 7, NONE};
        for (int k = 0; k < y.length; k++) {
            due(18, "next(1, " + k + ")", x.next(1, k), y[k]);
        }
        for (int k = 0; k < z.length; k++) {
            due(18, "next(2, " + k + ")", x.next(2, k), z[k]);
        }
        due(18, "next(0, MAX)", x.next(0, MAX), NONE);
        due(18, "next(0, -1)", x.next(0, -1), BAD);
        due(18, "next(3, 0)", x.next(3, 0), BAD);
        due(18, "next(-1, 0)", x.next(-1, 0), BAD);
        x.step(1);
        x.hold();
        due(18, "next(1, 0) from now on", x.next(1, 0), 0);
        due(18, "next(2, 0) from now on", x.next(2, 0), 3);
        due(18, "count(3)", x.count(3), 7);
    }

    private static void promise19() {
        PulsedAxes x = with("l2,1,0;l-2,-1,0;e0,2,-1");
        due(19, "meets(0, 0, 0): none is needed", x.meets(0, 0, 0), 0);
        due(19, "meets(1, 0, 0)", x.meets(1, 0, 0), 1);
        due(19, "meets(2, 1, 0)", x.meets(2, 1, 0), 2);
        due(19, "meets(1, 1, 0)", x.meets(1, 1, 0), 3);
        due(19, "meets(0, 2, 0)", x.meets(0, 2, 0), 6);
        due(19, "meets(0, 2, -1): the last", x.meets(0, 2, -1), 7);
        due(19, "meets(0, 2, 1)", x.meets(0, 2, 1), NONE);
        due(19, "meets(MIN, MAX, 0)", x.meets(MIN, MAX, 0), NONE);
        x.step(1);
        x.hold();
        due(19, "meets(0, 0, 0) from now on", x.meets(0, 0, 0), 3);
        due(19, "meets(1, 0, 0) from now on", x.meets(1, 0, 0), 0);
        due(19, "place(0): nothing is changed", x.place(0), 1);
        due(19, "meets on a new one", new PulsedAxes().meets(0, 0, 0), 0);
        due(19, "meets on a new one", new PulsedAxes().meets(0, 0, 1), NONE);
    }

    private static void promise20() {
        PulsedAxes x = with("c2,0,12;l-3,0,5");
        int[][] reaches = {{-3, 4}, {-2, 2}, {0, 5}};
        for (int axis = 0; axis < 3; axis++) {
            due(20, "reach(" + axis + ", 0)", x.reach(axis, 0), reaches[axis][0]);
            due(20, "reach(" + axis + ", 1)", x.reach(axis, 1), reaches[axis][1]);
        }
        x.step(13);
        x.hold();
        due(20, "reach(0, 1) from now on", x.reach(0, 1), -1);
        due(20, "reach(1, 0) from now on", x.reach(1, 0), 0);
        due(20, "reach(2, 0) from now on", x.reach(2, 0), 1);
        due(20, "reach(3, 0)", x.reach(3, 0), BAD);
        due(20, "reach(-1, 0)", x.reach(-1, 0), BAD);
        due(20, "reach(0, 2)", x.reach(0, 2), BAD);
        due(20, "reach(0, -1)", x.reach(0, -1), BAD);
    }

    private static void offDue(String text, int above, int below) {
        PulsedAxes x = with(text);
        due(21, text + ": off(0)", x.off(0), above);
        due(21, text + ": off(1)", x.off(1), below);
    }

    private static void promise21() {
        offDue("", 0, 1);
        offDue("c3,4,50;r1,1,1", 0, 1);
        offDue("l7,0,-7", 0, 1);
        offDue("l2,1,0", 1, 2);
        offDue("l3,1,0", 1, 3);
        offDue("e5,3,-2", 2, 5);
        offDue("l9,3,0", 1, 3);
        offDue("f4,2,0", 1, 1);
        offDue("f7,-3,2", 12, 7);
        offDue("f15,8,7", 56, 15);
        offDue("l3,1,0;l5,2,0", 2, 5);
        offDue("l5,2,0;l3,1,0", 2, 5);
        offDue("c1,0,5;l3,1,0", 1, 3);
        PulsedAxes x = with("f6,1,0;l3,1,0;l2,1,0");
        x.step(5);
        x.hold();
        due(21, "off(0): what is now, as a whole", x.off(0), 5);
        due(21, "off(1): what is now, as a whole", x.off(1), 6);
        x.hold();
        x.step(1);
        due(21, "off(0): what is done counts no more", x.off(0), 1);
        due(21, "off(1): what is done counts no more", x.off(1), 2);
        due(21, "off(2)", x.off(2), BAD);
        due(21, "off(-1)", x.off(-1), BAD);
    }

    private static void lostDue(PulsedAxes x, int[] asked, int above, int below) {
        String call = "lost(" + asked[0] + ", " + asked[1] + ", " + asked[2] + ", " + asked[3] + ", " + asked[4];
        due(22, call + ", 0)", x.lost(asked[0], asked[1], asked[2], asked[3], asked[4], 0), above);
        due(22, call + ", 1)", x.lost(asked[0], asked[1], asked[2], asked[3], asked[4], 1), below);
    }

    private static void promise22() {
        PulsedAxes x = with("l2,0,0;l-1,0,0;e0,1,1;l1,0,0;l1,0,0");
        lostDue(x, new int[] {0, 3, 0, 0, 0}, 1, 1);
        lostDue(x, new int[] {0, 3, 1, 0, 0}, 0, 1);
        lostDue(x, new int[] {1, 3, 1, 0, 0}, 7, 10);
        lostDue(x, new int[] {1, 5, 1, 0, 0}, 1, 2);
        lostDue(x, new int[] {2, 2, 1, 0, 0}, 8, 25);
        // three steps by 1, 1, -1: at 0 are none kept, or one of the first two and the third
        lostDue(x, new int[] {3, 5, 0, 0, 0}, 3, 8);
        lostDue(x, new int[] {3, 0, 1, 0, 0}, 1, 1);
        lostDue(x, new int[] {3, 10, 0, 0, 0}, 1, 1);
        lostDue(x, new int[] {3, 10, 1, 0, 0}, 0, 1);
        lostDue(x, new int[] {5, 1, 1, 1, 1}, (729 + 9 + 9) * 81, 100000);
        lostDue(x, new int[] {6, 0, 2, 1, 1}, 1, 1);
        lostDue(x, new int[] {6, 1, MAX, MIN, 0}, 0, 1);
        int[][] bad = {{-1, 1, 0}, {7, 1, 0}, {1, -1, 0}, {1, 11, 0}, {1, 1, 2}, {1, 1, -1}, {MAX, 1, 0}, {MIN, 1, 0}};
        for (int[] b : bad) {
            due(22, "lost(" + b[0] + ", " + b[1] + ", .., " + b[2] + ")", x.lost(b[0], b[1], 0, 0, 0, b[2]), BAD);
        }
        x.step(2);
        x.hold();
        due(22, "lost(5, 0, 2, 1, 1) above, from now on", x.lost(5, 0, 3, 1, 1, 0), 1);
        due(22, "lost(6, ..): there are 5", x.lost(6, 0, 3, 1, 1, 0), BAD);
        due(22, "place(0): nothing is changed", x.place(0), 2);
        due(22, "lost on a new one", new PulsedAxes().lost(1, 0, 0, 0, 0, 0), BAD);
        // what is lost does not turn the arc: it goes on as if it had not been lost
        lostDue(with("c2,0,12"), new int[] {3, 5, 1, 0, 0}, 1, 8);
    }

    private static void promise23() {
        PulsedAxes x = with("e2,1,0;c1,0,5");
        x.seed(7);
        x.step(1);
        x.hold();
        due(23, "image()", x.image(), 1);
        due(23, "count(5): an image is nothing to undo", x.count(5), 2);
        x.hold();
        x.step(5);
        due(23, "image() again", x.image(), 1);
        x.undo();
        due(23, "restore(): the latest", x.restore(), 1);
        due(23, "count(5)", x.count(5), 4);
        due(23, "count(3)", x.count(3), 2);
        due(23, "image() of a new one", new PulsedAxes().image(), 1);
    }

    private static void promise24() {
        PulsedAxes x = with("e2,1,0;c1,0,5;l1,1,1");
        due(24, "restore()", x.restore(), NONE);
        x.seed(7);
        x.step(1);
        x.hold();
        x.type('l');
        x.sheet(0, 0, 2);
        x.image();
        for (int round = 0; round < 2; round++) {
            x.hold();
            x.step(4);
            x.purge(LINE);
            x.stop();
            x.jump(FAST, 5, 5, 5);
            x.push(FAST, 5, 5, 5);
            x.drift(9);
            due(24, "restore()", x.restore(), 1);
            due(24, "count(0)", x.count(0), 2);
            due(24, "count(1)", x.count(1), 1);
            due(24, "count(2)", x.count(2), 1);
            due(24, "count(3)", x.count(3), 8);
            due(24, "count(5)", x.count(5), 2);
            due(24, "piece(-1, 0)", x.piece(-1, 0), EVEN);
            due(24, "piece(0, 0)", x.piece(0, 0), LEFT);
            due(24, "piece(1, 3)", x.piece(1, 3), 1);
            due(24, "where(2, 1)", x.where(2, 1), 1);
            placesDue(24, "as it was", x, 1, 0, 0);
            due(24, "seed", x.seed(7), 7);
            due(24, "undo()", x.undo(), 1);
            due(24, "count(2)", x.count(2), 0);
            due(24, "undo()", x.undo(), 0);
            placesDue(24, "as it was at first", x, 0, 0, 0);
            due(24, "seed", x.seed(8), 7);
        }
        due(24, "type: the tape stays", x.type('l'), 2);
        x.sheet(0, 1, 4);
        x.restore();
        due(24, "drop: the sheets stay", x.drop(0), 4);
    }

    // ---- 3 sheets

    private static void fill(PulsedAxes x, int sheet, int lane, long... items) {
        x.sheet(sheet, lane, items.length);
        for (int i = 0; i < items.length; i++) {
            x.item(sheet, lane, i, items[i]);
        }
    }

    private static void promise25() {
        PulsedAxes x = with("l2,1,3");
        fill(x, 0, 2, 1, 0, 1, 1, 2, 1);
        // LINE 1,0 1,1 2,1; FAST 1,1 2,1 2,1; EVEN 1,0 1,0 1,0 1,1; LEFT about 2, 1: 0,-1 ..
        due(25, "came(0, 2, 0, 1)", x.came(0, 2, 0, 1), 1 + 4);
        due(25, "came(0, 2, 0, 2)", x.came(0, 2, 0, 2), 1);
        due(25, "came(0, 2, 0, 3)", x.came(0, 2, 0, 3), 1);
        due(25, "came(0, 2, 2, 2)", x.came(0, 2, 2, 2), 2);
        due(25, "came(0, 2, 1, 1)", x.came(0, 2, 1, 1), 16);
        due(25, "came(0, 2, 4, 1)", x.came(0, 2, 4, 1), 0);
        fill(x, 1, 0, 1, 0, 1, 1, 2, 1, 3, 3);
        due(25, "came(1, 0, 0, 4): there are fewer steps", x.came(1, 0, 0, 4), 0);
        int[][] refused = {
            {-1, 2, 0, 1, BAD}, {4, 2, 0, 1, BAD}, {0, -1, 0, 1, BAD}, {0, 4, 0, 1, BAD}, {0, 2, 0, 0, BAD},
            {0, 2, 0, 7, BAD}, {3, 4, 0, 1, BAD}, {3, 2, -1, 1, NULL}, {0, 1, -1, 1, CAST}, {0, 2, -1, 1, INDEX},
            {0, 2, 5, 1, INDEX}, {0, 2, 1, 3, INDEX}, {0, 2, MAX, 1, INDEX}, {0, 2, MIN, 6, INDEX}, {0, 2, 0, 4, INDEX}};
        for (int[] r : refused) {
            due(25, "came(" + r[0] + ", " + r[1] + ", " + r[2] + ", " + r[3] + ")",
                    x.came(r[0], r[1], r[2], r[3]), r[4]);
        }
        due(25, "count(3): nothing is changed", x.count(3), 3);
        x.hold();
        due(25, "came, held", x.came(0, 2, 0, 1), 1 + 4);
        x.hold();
        x.step(1);
        due(25, "came, one being now", x.came(0, 2, 0, 1), NOT);
        due(25, "came, INDEX ahead of NOT", x.came(0, 2, 6, 1), INDEX);
        x.step(2);
        due(25, "came, nothing waits", x.came(0, 2, 0, 1), NOT);
    }

    private static void promise25Row() {
        // numbers that no line may have, and numbers that no arc may have
        PulsedAxes x = with("c2,0,99");
        fill(x, 0, 3, 0, -1, 1, -2, 2, -2, 3, -2, 4, -1, 4, 0);
        due(25, "came of an arc", x.came(0, 3, 0, 6), 8);
        fill(x, 1, 3, 1, 0);
        due(25, "came: 99 is no way of a line", x.came(1, 3, 0, 1), 0);
        told(x, "l11,0,5");
        due(25, "came: 11 is no arc's number", x.came(1, 3, 0, 1), 1 + 2 + 4);
        // the steps go on into the pieces behind
        told(x, "f1,0,0;l0,1,0;l0,1,0");
        fill(x, 2, 1, 1, 0, 1, 1, 1, 2);
        due(25, "came over a piece's end", x.came(2, 1, 0, 3), 1 + 2 + 4);
        // an item that does not fit a place is not so, whatever its lowest bits are
        fill(x, 3, 3, 1L << 32 | 1, 0);
        due(25, "came by a long", x.came(3, 3, 0, 1), 0);
        fill(x, 3, 3, 1, 1L << 40);
        due(25, "came by a long", x.came(3, 3, 0, 1), 0);
        told(x, "l2,3,0;l-1,0,1");
        x.step(3);
        fill(x, 3, 0, 1, 3);
        due(25, "came from other places", x.came(3, 0, 0, 1), 1 + 2 + 4);
    }

    private static void promise26() {
        PulsedAxes x = with("l2,1,0;e0,-2,1");
        x.sheet(0, 0, 24);
        due(26, "film(12, 0, 0, 0)", x.film(12, 0, 0, 0), 24);
        itemsDue(26, "film", x, 0, 0, 1, 0, 2, 1, 2, 0, 2, -1, 2, -1, 2, -1, 2, -1, 2, -1, 2, -1, 2, -1, 2, -1, 2, -1);
        x.sheet(1, 3, 6);
        x.hold();
        due(26, "film(2, 1, 3, 1), held", x.film(2, 1, 3, 1), 4);
        itemsDue(26, "film", x, 1, 3, 0, 1, 0, 2, 1, 0);
        due(26, "count(3): nothing is changed", x.count(3), 5);
        int[][] refused = {
            {0, 0, 0, 0, BAD}, {13, 0, 0, 0, BAD}, {MIN, 0, 0, 0, BAD}, {1, 4, 0, 0, BAD}, {1, -1, 0, 0, BAD},
            {1, 0, 4, 0, BAD}, {1, 0, -1, 0, BAD}, {1, 2, 0, -1, NULL}, {1, 1, 0, -1, CAST}, {1, 1, 3, -1, INDEX},
            {1, 1, 3, 5, INDEX}, {4, 1, 3, 0, INDEX}, {1, 1, 3, MAX, INDEX}, {12, 0, 0, 1, INDEX}};
        for (int[] r : refused) {
            due(26, "film(" + r[0] + ", " + r[1] + ", " + r[2] + ", " + r[3] + ")",
                    x.film(r[0], r[1], r[2], r[3]), r[4]);
        }
        itemsDue(26, "film refused", x, 1, 3, 0, 1, 0, 2, 1, 0);
        x.hold();
        x.step(3);
        x.film(1, 1, 3, 4);
        itemsDue(26, "film from now on", x, 1, 3, 0, 1, 0, 2, 2, -1);
        promise26Far();
    }

    /** Places that a byte does not hold come by their lowest bits: 133 as -123, -133 as 123. */
    private static void promise26Far() {
        PulsedAxes x = new PulsedAxes();
        goFar(x, "l15,-15,0", 132);
        x.sheet(0, 0, 2);
        x.sheet(1, 1, 2);
        due(26, "film(1, 0, 0, 0)", x.film(1, 0, 0, 0), 2);
        due(26, "film(1, 1, 1, 0)", x.film(1, 1, 1, 0), 2);
        x.stop();
        x.jump(LINE, 1, -1, 0);
        due(26, "came by shorts", x.came(1, 1, 0, 1) & 1, 1);
        due(26, "came by bytes", x.came(0, 0, 0, 1) & 1, 0);
        goFar(x, "l-15,15,0", 122);
        x.stop();
        x.jump(LINE, -1, 1, 0);
        due(26, "came by shorts", x.came(1, 1, 0, 1) & 1, 0);
        due(26, "came by bytes", x.came(0, 0, 0, 1) & 1, 1);
    }

    private static void goFar(PulsedAxes x, String piece, int steps) {
        StringBuilder plan = new StringBuilder(piece);
        for (int k = 1; k < 9; k++) {
            plan.append(';').append(piece);
        }
        told(x, plan.toString());
        x.step(steps);
    }

    private static void promise27() {
        PulsedAxes x = new PulsedAxes();
        for (int lane = 0; lane < 4; lane++) {
            due(27, "sheet(" + lane + ", " + lane + ", 24)", x.sheet(lane, lane, 24), 24);
            due(27, "item 23", x.item(lane, lane, 23, 5), 1);
            due(27, "item 24", x.item(lane, lane, 24, 5), INDEX);
        }
        due(27, "sheet(0, 2, 0)", x.sheet(0, 2, 0), 0);
        due(27, "item 0 of none", x.item(0, 2, 0, 5), INDEX);
        due(27, "sheet(-1, 0, 1)", x.sheet(-1, 0, 1), BAD);
        due(27, "sheet(4, 0, 1)", x.sheet(4, 0, 1), BAD);
        due(27, "sheet(0, -1, 1)", x.sheet(0, -1, 1), BAD);
        due(27, "sheet(0, 4, 1)", x.sheet(0, 4, 1), BAD);
        due(27, "sheet(1, 1, 25)", x.sheet(1, 1, 25), BAD);
        due(27, "sheet(1, 1, MAX)", x.sheet(1, 1, MAX), BAD);
        due(27, "sheet(1, 1, -1)", x.sheet(1, 1, -1), SIZE);
        due(27, "sheet(1, 1, MIN)", x.sheet(1, 1, MIN), SIZE);
        due(27, "sheet(4, 1, -1)", x.sheet(4, 1, -1), BAD);
        due(27, "sheet(1, 4, -1)", x.sheet(1, 4, -1), BAD);
        due(27, "drop(1): refusals change nothing", x.drop(1), 24);
        fill(x, 2, 0, 7, 7, 7, 7);
        x.sheet(2, 0, 4);
        itemsDue(27, "a new row", x, 2, 0, 0, 0, 0, 0);
    }

    private static void promise28() {
        PulsedAxes x = new PulsedAxes();
        x.sheet(0, 0, 0);
        x.sheet(3, 3, 24);
        due(28, "drop(0)", x.drop(0), 0);
        due(28, "drop(0) again", x.drop(0), NULL);
        due(28, "drop(1)", x.drop(1), NULL);
        due(28, "drop(3)", x.drop(3), 24);
        due(28, "item of what is dropped", x.item(3, 3, 0, 0), NULL);
        due(28, "drop(-1)", x.drop(-1), BAD);
        due(28, "drop(4)", x.drop(4), BAD);
        due(28, "drop(MIN)", x.drop(MIN), BAD);
        x.sheet(3, 1, 4);
        due(28, "drop(3), which was made anew", x.drop(3), 4);
    }

    private static void promise29() {
        PulsedAxes x = new PulsedAxes();
        long[] bits = {1L << 8, 1L << 16, 1L << 32, 0};
        for (int lane = 0; lane < 4; lane++) {
            x.sheet(0, lane, 4);
            due(29, "item", x.item(0, lane, 0, bits[lane] | 3), 1);
            due(29, "item", x.item(0, lane, 1, -bits[lane] - 4), 1);
            due(29, "item", x.item(0, lane, 2, bits[lane] - 1), 1);
            due(29, "item", x.item(0, lane, 3, 15), 1);
            itemsDue(29, "lane " + lane, x, 0, lane, 3, -4, -1, 15);
        }
        x.sheet(1, 1, 3);
        int[][] refused = {
            {-1, 1, 0, BAD}, {4, 1, 0, BAD}, {1, -1, 0, BAD}, {1, 4, 0, BAD}, {2, 4, 0, BAD}, {2, 1, -1, NULL},
            {1, 0, -1, CAST}, {1, 2, 3, CAST}, {1, 1, -1, INDEX}, {1, 1, 3, INDEX}, {1, 1, MAX, INDEX}, {1, 1, MIN, INDEX}};
        for (int[] r : refused) {
            due(29, "item(" + r[0] + ", " + r[1] + ", " + r[2] + ", 9)", x.item(r[0], r[1], r[2], 9), r[3]);
        }
        itemsDue(29, "refused", x, 1, 1, 0, 0);
    }

    private static void promise30() {
        PulsedAxes x = new PulsedAxes();
        fill(x, 0, 1, 1, 2, 3, 4, 5, 6);
        x.sheet(1, 1, 4);
        x.sheet(2, 2, 4);
        due(30, "copy(0, 2, 1, 1, 3)", x.copy(0, 2, 1, 1, 3), 3);
        itemsDue(30, "to another", x, 1, 1, 0, 3, 4, 5);
        itemsDue(30, "the one it comes from", x, 0, 1, 1, 2, 3, 4, 5, 6);
        due(30, "copy(0, 0, 0, 1, 4)", x.copy(0, 0, 0, 1, 4), 4);
        itemsDue(30, "the same, up", x, 0, 1, 1, 1, 2, 3, 4, 6);
        due(30, "copy(0, 2, 0, 0, 4)", x.copy(0, 2, 0, 0, 4), 4);
        itemsDue(30, "the same, down", x, 0, 1, 2, 3, 4, 6, 4, 6);
        int[][] asked = {
            {-1, 0, 1, 0, 0, BAD}, {4, 0, 1, 0, 0, BAD}, {0, 0, -1, 0, 0, BAD}, {0, 0, 4, 0, 0, BAD}, {3, 0, 4, 0, 0, BAD},
            {3, 0, 0, 0, 0, NULL}, {0, 0, 3, 0, 0, NULL}, {3, 0, 3, 0, -1, NULL}, {0, 0, 2, 0, 0, CAST}, {2, 9, 0, 0, -1, CAST},
            {0, 0, 1, 0, -1, INDEX}, {0, 0, 1, 0, MIN, INDEX}, {0, -1, 1, 0, 1, INDEX}, {0, 0, 1, -1, 1, INDEX},
            {0, -1, 1, 0, 0, INDEX}, {0, 0, 1, -1, 0, INDEX}, {0, 7, 1, 0, 0, INDEX}, {0, 0, 1, 5, 0, INDEX},
            {0, 6, 1, 4, 0, 0}, {0, 0, 1, 0, 0, 0}, {0, 3, 1, 0, 4, INDEX}, {0, 0, 1, 1, 4, INDEX}, {0, 0, 1, 0, 5, INDEX},
            {0, MAX, 1, 0, 1, INDEX}, {0, 0, 1, MAX, 1, INDEX}, {0, MAX, 1, MAX, MAX, INDEX}, {0, 0, 1, 0, MAX, INDEX},
            {0, 2, 1, 0, 4, 4}};
        for (int k = 0; k < asked.length; k++) {
            int[] c = asked[k];
            if (k + 1 == asked.length) {
                itemsDue(30, "refused", x, 1, 1, 0, 3, 4, 5);
            }
            due(30, "copy(" + c[0] + ", " + c[1] + ", " + c[2] + ", " + c[3] + ", " + c[4] + ")",
                    x.copy(c[0], c[1], c[2], c[3], c[4]), c[5]);
        }
        itemsDue(30, "the last copy", x, 1, 1, 4, 6, 4, 6);
    }
}
