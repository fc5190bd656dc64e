/**
 * Three axes that go by whole steps: pieces of way wait in a row, are done step by step, looked at
 * ahead of time, undone, and told as texts. ../shared/DOC.md has the promises.
 */
public final class PulsedAxes {
    public static final int BAD = -1000001, NOT = -1000002, FULL = -1000003, NONE = -1000004,
            NULL = -1000011, CAST = -1000012, INDEX = -1000013, SIZE = -1000014;

    private static final int FIRST_FAULT = -1000020;
    private static final int FINE = 0;

    private static final int FAST = 1, EVEN = 2, LEFT = 3, RIGHT = 4;
    private static final int KINDS = 5;
    private static final int AXES = 3;
    private static final int LONGEST_WAY = 15;
    private static final int WIDEST_ARC = 10;
    private static final int LONGEST_ARC = 99;

    private static final int MOST_WAITING = 12;
    /** All that can wait and what is begun, each of them an arc of the longest kind. */
    private static final int MOST_STEPS = (MOST_WAITING + 1) * LONGEST_ARC;
    private static final int MOST_KNOWN = 6;
    private static final int MOST_DONE = 200;
    private static final int MOST_TURNS = 40;
    private static final int MOST_LOST = 6;
    private static final int MOST_CAME = 6;
    private static final int MOST_FILMED = 12;

    private static final int LONGEST_TAPE = 140;
    /** Of the kinds in a plan, each at its kind's number. */
    private static final String LETTERS = "lfecr";
    private static final int SHEETS = 4;
    private static final int LANES = 4;
    private static final int LONGEST_SHEET = 24;

    private final State state = new State();
    private final Past past = new Past();
    private final Walk walk = new Walk(state);
    private final Reader reader = new Reader();
    private final Sheet[] sheets = new Sheet[SHEETS];
    private final int[] moves = new int[MOST_LOST * AXES];

    private final State imageState = new State();
    private final Past imagePast = new Past();
    private boolean imaged = false;

    public PulsedAxes() {
        for (int k = 0; k < SHEETS; k++) {
            sheets[k] = new Sheet();
        }
    }

    // ---- 1 pieces

    public int place(int axis) {
        if (!isAxis(axis)) {
            return BAD;
        }
        return state.spot[axis];
    }

    public int piece(int k, int what) {
        if (k < -1 || k >= state.waiting || what < 0 || what > 4) {
            return BAD;
        }
        if (k >= 0) {
            return detail(state.row[k], what);
        }
        return state.busy ? detail(state.now, what) : NONE;
    }

    public int type(int letter) {
        if (letter < 32 || letter > 126) {
            return BAD;
        }
        return reader.append((char) letter) ? reader.length : FULL;
    }

    public int plan() {
        boolean read = reader.readPlan();
        int fault = reader.at;
        reader.length = 0;
        if (!read) {
            return FIRST_FAULT - fault;
        }
        state.clear();
        for (int k = 0; k < reader.found; k++) {
            Piece told = reader.pieces[k];
            state.addLast(told.kind, told.a, told.b, told.c);
        }
        past.known = 0;
        return state.waiting;
    }

    public int count(int what) {
        switch (what) {
            case 0:
                return state.waiting;
            case 1:
                return state.busy ? 1 : 0;
            case 2:
                return state.held ? 1 : 0;
            case 3:
                return state.remaining();
            case 4:
                return state.kinds();
            case 5:
                return past.known;
            default:
                return BAD;
        }
    }

    // ---- what is done

    public int push(int kind, int a, int b, int c) {
        int fault = newcomerRefusal(kind, a, b, c);
        if (fault != FINE) {
            return fault;
        }
        past.keep(state);
        state.addLast(kind, a, b, c);
        return state.waiting;
    }

    public int jump(int kind, int a, int b, int c) {
        int fault = newcomerRefusal(kind, a, b, c);
        if (fault != FINE) {
            return fault;
        }
        past.keep(state);
        state.addFirst(kind, a, b, c);
        return state.waiting;
    }

    public int purge(int kind) {
        if (!isKind(kind)) {
            return BAD;
        }
        if ((state.kinds() & (1 << kind)) == 0) {
            return NOT;
        }
        past.keep(state);
        return state.removeAll(kind);
    }

    public int stop() {
        if (!state.busy) {
            return NOT;
        }
        past.keep(state);
        state.busy = false;
        return state.now.remaining();
    }

    public int hold() {
        past.keep(state);
        state.held = !state.held;
        return state.held ? 1 : 0;
    }

    public int step(int n) {
        if (n < 1 || n > MOST_DONE) {
            return BAD;
        }
        if (state.held) {
            return NOT;
        }
        past.keep(state);
        return doSteps(n);
    }

    public int drift(int n) {
        if (n < 1 || n > MOST_TURNS) {
            return BAD;
        }
        for (int turn = 0; turn < n; turn++) {
            past.keep(state);
            driftOnce();
        }
        return state.remaining();
    }

    public int undo() {
        if (past.known <= 0) {
            return NONE;
        }
        past.takeBack(state);
        return past.known;
    }

    public int seed(int v) {
        if (v < 0) {
            return BAD;
        }
        int was = state.draw;
        state.draw = v;
        return was;
    }

    // ---- 2 looked for

    public int where(int n, int axis) {
        if (n < 0 || !isAxis(axis)) {
            return BAD;
        }
        walk.begin();
        int most = Math.min(n, MOST_STEPS);
        for (int k = 0; k < most; k++) {
            if (!walk.advance()) {
                break;
            }
        }
        return walk.spot[axis];
    }

    public int pulses(int axis, int what) {
        if (!isAxis(axis) || !isSide(what)) {
            return BAD;
        }
        int moved = 0;
        int rest = 0;
        int longest = 0;
        walk.begin();
        for (int k = 0; k < MOST_STEPS && walk.advance(); k++) {
            if (walk.move[axis] != 0) {
                moved++;
                rest = 0;
            } else {
                rest++;
                longest = Math.max(longest, rest);
            }
        }
        return what == 0 ? moved : longest;
    }

    public int next(int axis, int k) {
        if (!isAxis(axis) || k < 0) {
            return BAD;
        }
        walk.begin();
        for (int at = 0; at < MOST_STEPS && walk.advance(); at++) {
            if (at >= k && walk.move[axis] != 0) {
                return at;
            }
        }
        return NONE;
    }

    public int meets(int x, int y, int z) {
        walk.begin();
        for (int done = 0; done <= MOST_STEPS; done++) {
            if (walk.spot[0] == x && walk.spot[1] == y && walk.spot[2] == z) {
                return done;
            }
            if (!walk.advance()) {
                break;
            }
        }
        return NONE;
    }

    public int reach(int axis, int what) {
        if (!isAxis(axis) || !isSide(what)) {
            return BAD;
        }
        int least = state.spot[axis];
        int greatest = least;
        walk.begin();
        for (int k = 0; k < MOST_STEPS && walk.advance(); k++) {
            least = Math.min(least, walk.spot[axis]);
            greatest = Math.max(greatest, walk.spot[axis]);
        }
        return what == 0 ? least : greatest;
    }

    public int off(int what) {
        if (!isSide(what)) {
            return BAD;
        }
        Fraction most = new Fraction();
        if (state.busy) {
            state.now.raiseOff(most);
        }
        for (int k = 0; k < state.waiting; k++) {
            state.row[k].raiseOff(most);
        }
        return most.lowest(what);
    }

    public int lost(int n, int c, int x, int y, int z, int what) {
        if (n < 0 || n > MOST_LOST || n > state.remaining() || c < 0 || c > 10 || !isSide(what)) {
            return BAD;
        }
        gatherMoves(n);
        int above = 0;
        int below = 1;
        for (int k = 0; k < n; k++) {
            below *= 10;
        }
        for (int kept = 0; kept < 1 << n; kept++) {
            if (endOf(kept, n, 0) == x && endOf(kept, n, 1) == y && endOf(kept, n, 2) == z) {
                above += weightOf(kept, n, c);
            }
        }
        Fraction odds = new Fraction();
        odds.above = above;
        odds.below = below;
        return odds.lowest(what);
    }

    public int image() {
        imageState.copyFrom(state);
        imagePast.copyFrom(past);
        imaged = true;
        return 1;
    }

    public int restore() {
        if (!imaged) {
            return NONE;
        }
        state.copyFrom(imageState);
        past.copyFrom(imagePast);
        return 1;
    }

    // ---- 3 sheets

    public int came(int sheet, int lane, int i, int n) {
        if (!isSheet(sheet) || !isLane(lane) || n < 1 || n > MOST_CAME) {
            return BAD;
        }
        Sheet told = sheets[sheet];
        int fault = told.refusal(lane, i, 2 * n);
        if (fault != FINE) {
            return fault;
        }
        if (state.busy || state.waiting == 0) {
            return NOT;
        }
        int kinds = 0;
        for (int kind = 0; kind < KINDS; kind++) {
            if (comesSo(kind, told, i, n)) {
                kinds |= 1 << kind;
            }
        }
        return kinds;
    }

    public int film(int n, int sheet, int lane, int i) {
        if (!isSheet(sheet) || !isLane(lane) || n < 1 || n > MOST_FILMED) {
            return BAD;
        }
        Sheet shot = sheets[sheet];
        int fault = shot.refusal(lane, i, 2 * n);
        if (fault != FINE) {
            return fault;
        }
        walk.begin();
        for (int k = 0; k < n; k++) {
            walk.advance();
            shot.put(i + 2 * k, walk.spot[0]);
            shot.put(i + 2 * k + 1, walk.spot[1]);
        }
        return 2 * n;
    }

    public int sheet(int sheet, int lane, int n) {
        if (!isSheet(sheet) || !isLane(lane) || n > LONGEST_SHEET) {
            return BAD;
        }
        if (n < 0) {
            return SIZE;
        }
        sheets[sheet].renew(lane, n);
        return n;
    }

    public int drop(int sheet) {
        if (!isSheet(sheet)) {
            return BAD;
        }
        Sheet dropped = sheets[sheet];
        if (!dropped.there) {
            return NULL;
        }
        dropped.there = false;
        return dropped.size;
    }

    public int item(int sheet, int lane, int i, long v) {
        if (!isSheet(sheet) || !isLane(lane)) {
            return BAD;
        }
        int fault = sheets[sheet].refusal(lane, i, 1);
        if (fault != FINE) {
            return fault;
        }
        sheets[sheet].put(i, v);
        return 1;
    }

    public int copy(int from, int i, int to, int j, int n) {
        if (!isSheet(from) || !isSheet(to)) {
            return BAD;
        }
        Sheet source = sheets[from];
        Sheet target = sheets[to];
        if (!source.there || !target.there) {
            return NULL;
        }
        if (source.lane != target.lane) {
            return CAST;
        }
        if (!source.holds(i, n) || !target.holds(j, n)) {
            return INDEX;
        }
        System.arraycopy(source.items, i, target.items, j, n);
        return n;
    }

    // ---- what the calls share

    private static boolean isAxis(int axis) {
        return axis >= 0 && axis < AXES;
    }

    private static boolean isKind(int kind) {
        return kind >= 0 && kind < KINDS;
    }

    private static boolean isSide(int what) {
        return what == 0 || what == 1;
    }

    private static boolean isSheet(int sheet) {
        return sheet >= 0 && sheet < SHEETS;
    }

    private static boolean isLane(int lane) {
        return lane >= 0 && lane < LANES;
    }

    private static boolean isWithin(int number, int most) {
        return number >= -most && number <= most;
    }

    /** Whether a piece of this kind may have these numbers. */
    private static boolean fits(int kind, int a, int b, int c) {
        if (!isKind(kind)) {
            return false;
        }
        if (kind == LEFT || kind == RIGHT) {
            return isWithin(a, WIDEST_ARC) && isWithin(b, WIDEST_ARC) && (a != 0 || b != 0)
                    && c >= 1 && c <= LONGEST_ARC;
        }
        return isWithin(a, LONGEST_WAY) && isWithin(b, LONGEST_WAY) && isWithin(c, LONGEST_WAY)
                && (a != 0 || b != 0 || c != 0);
    }

    private int newcomerRefusal(int kind, int a, int b, int c) {
        if (!fits(kind, a, b, c)) {
            return BAD;
        }
        return state.waiting < MOST_WAITING ? FINE : FULL;
    }

    private static int sign(int number) {
        if (number == 0) {
            return 0;
        }
        return number > 0 ? 1 : -1;
    }

    private static int detail(Piece told, int what) {
        switch (what) {
            case 0:
                return told.kind;
            case 1:
                return told.a;
            case 2:
                return told.b;
            case 3:
                return told.c;
            default:
                return told.remaining();
        }
    }

    private int doSteps(int n) {
        int done = 0;
        walk.begin();
        while (done < n && walk.advance()) {
            done++;
        }
        walk.settle();
        return done;
    }

    private void driftOnce() {
        state.draw = (state.draw * 1103515245 + 12345) & 0x7fffffff;
        int x = state.draw >> 16;
        if (x % 3 != 0) {
            doSteps(1);
        } else if (state.waiting < MOST_WAITING) {
            state.addLast(x / 3 % 3, x / 16 % 9 - 4, x / 256 % 9 - 4, 1);
        }
    }

    /** Writes what each of the next n steps would move. */
    private void gatherMoves(int n) {
        walk.begin();
        for (int k = 0; k < n && k < MOST_LOST; k++) {
            walk.advance();
            for (int axis = 0; axis < AXES; axis++) {
                moves[k * AXES + axis] = walk.move[axis];
            }
        }
    }

    /** The place of an axis behind n steps of which only those in the set are not lost. */
    private int endOf(int kept, int n, int axis) {
        int end = state.spot[axis];
        for (int k = 0; k < n && k < MOST_LOST; k++) {
            if ((kept >> k & 1) != 0) {
                end += moves[k * AXES + axis];
            }
        }
        return end;
    }

    private static int weightOf(int kept, int n, int c) {
        int weight = 1;
        for (int k = 0; k < n; k++) {
            weight *= (kept >> k & 1) != 0 ? 10 - c : c;
        }
        return weight;
    }

    /** Whether the first that waits, were it of this kind, would come through the places told. */
    private boolean comesSo(int kind, Sheet told, int i, int n) {
        Piece first = state.row[0];
        if (!fits(kind, first.a, first.b, first.c)) {
            return false;
        }
        walk.beginAs(kind);
        for (int k = 0; k < n; k++) {
            if (!walk.advance()) {
                return false;
            }
            if (told.get(i + 2 * k) != walk.spot[0] || told.get(i + 2 * k + 1) != walk.spot[1]) {
                return false;
            }
        }
        return true;
    }

    /** A piece of way, and how much of it has been done. */
    private static final class Piece {
        private int kind;
        private int a;
        private int b;
        private int c;
        private int done;
        /** All but arcs: how many turns it takes. */
        private int turns;
        /** EVEN alone: the turn under way, and the first axis that is still to be looked at in it. */
        private int turn;
        private int axis;
        /** Arcs alone: how far x and y are from the middle. */
        private int u;
        private int v;

        private void tell(int newKind, int newA, int newB, int newC) {
            kind = newKind;
            a = newA;
            b = newB;
            c = newC;
            done = 0;
            turns = Math.max(Math.abs(newA), Math.max(Math.abs(newB), Math.abs(newC)));
            turn = 1;
            axis = 0;
            u = -newA;
            v = -newB;
        }

        private void copyFrom(Piece other) {
            kind = other.kind;
            a = other.a;
            b = other.b;
            c = other.c;
            done = other.done;
            turns = other.turns;
            turn = other.turn;
            axis = other.axis;
            u = other.u;
            v = other.v;
        }

        private boolean isArc() {
            return kind == LEFT || kind == RIGHT;
        }

        private int way(int along) {
            if (along == 0) {
                return a;
            }
            return along == 1 ? b : c;
        }

        private int total() {
            if (isArc()) {
                return c;
            }
            return kind == EVEN ? Math.abs(a) + Math.abs(b) + Math.abs(c) : turns;
        }

        private int remaining() {
            return total() - done;
        }

        /** How far an axis has gone behind the k-th turn; no arc. */
        private int gone(int k, int along) {
            int whole = Math.abs(way(along));
            int far = kind == FAST ? Math.min(k, whole) : nearest(k * whole, turns);
            return way(along) < 0 ? -far : far;
        }

        /** The whole number nearest to a fraction that is not below 0; of two the lower one. */
        private static int nearest(int above, int below) {
            if (below <= 0) {
                return 0;
            }
            return (2 * above + below - 1) / (2 * below);
        }

        /** Does the next step, and writes what it moves. */
        private void advance(int[] move) {
            move[0] = 0;
            move[1] = 0;
            move[2] = 0;
            if (isArc()) {
                advanceArc(move);
            } else if (kind == EVEN) {
                advanceEven(move);
            } else {
                for (int along = 0; along < AXES; along++) {
                    move[along] = gone(done + 1, along) - gone(done, along);
                }
            }
            done++;
        }

        private void advanceEven(int[] move) {
            // the longest axis moves by every turn, so it is met before each has been looked at twice
            for (int looks = 0; looks < 2 * AXES; looks++) {
                if (axis >= AXES) {
                    axis = 0;
                    turn++;
                }
                int along = axis;
                axis++;
                int by = gone(turn, along) - gone(turn - 1, along);
                if (by != 0) {
                    move[along] = by;
                    return;
                }
            }
        }

        private void advanceArc(int[] move) {
            int dx = kind == LEFT ? sign(-v) : sign(v);
            int dy = kind == LEFT ? sign(u) : sign(-u);
            if (dx != 0 && dy != 0) {
                int offX = offCircle(dx, 0);
                int offY = offCircle(0, dy);
                int offBoth = offCircle(dx, dy);
                if (offX <= offY && offX <= offBoth) {
                    dy = 0;
                } else if (offY <= offBoth) {
                    dx = 0;
                }
            }
            move[0] = dx;
            move[1] = dy;
            u += dx;
            v += dy;
        }

        private int offCircle(int dx, int dy) {
            return Math.abs((u + dx) * (u + dx) + (v + dy) * (v + dy) - a * a - b * b);
        }

        /** Raises the fraction to the most that this piece, as a whole, is off its true line. */
        private void raiseOff(Fraction most) {
            if (isArc()) {
                return;
            }
            for (int k = 1; k <= turns; k++) {
                for (int along = 0; along < AXES; along++) {
                    most.raise(Math.abs(gone(k, along) * turns - k * way(along)), turns);
                }
            }
        }
    }

    /** All that can be undone and kept as an image. */
    private static final class State {
        private final int[] spot = new int[AXES];
        private final Piece[] row = new Piece[MOST_WAITING];
        private int waiting = 0;
        private final Piece now = new Piece();
        private boolean busy = false;
        private boolean held = false;
        private int draw = 1;

        private State() {
            for (int k = 0; k < MOST_WAITING; k++) {
                row[k] = new Piece();
            }
        }

        private void copyFrom(State other) {
            System.arraycopy(other.spot, 0, spot, 0, AXES);
            for (int k = 0; k < other.waiting; k++) {
                row[k].copyFrom(other.row[k]);
            }
            waiting = other.waiting;
            now.copyFrom(other.now);
            busy = other.busy;
            held = other.held;
            draw = other.draw;
        }

        /** As a new one, but for the draw. */
        private void clear() {
            spot[0] = 0;
            spot[1] = 0;
            spot[2] = 0;
            waiting = 0;
            busy = false;
            held = false;
        }

        private void addLast(int kind, int a, int b, int c) {
            if (waiting < MOST_WAITING) {
                row[waiting].tell(kind, a, b, c);
                waiting++;
            }
        }

        private void addFirst(int kind, int a, int b, int c) {
            if (waiting >= MOST_WAITING) {
                return;
            }
            Piece free = row[waiting];
            for (int k = waiting; k > 0; k--) {
                row[k] = row[k - 1];
            }
            row[0] = free;
            free.tell(kind, a, b, c);
            waiting++;
        }

        private void removeAt(int at) {
            if (at < 0 || at >= waiting) {
                return;
            }
            Piece free = row[at];
            for (int k = at; k + 1 < waiting; k++) {
                row[k] = row[k + 1];
            }
            waiting--;
            row[waiting] = free;
        }

        private int removeAll(int kind) {
            int went = 0;
            for (int k = waiting - 1; k >= 0; k--) {
                if (row[k].kind == kind) {
                    removeAt(k);
                    went++;
                }
            }
            return went;
        }

        private int kinds() {
            int set = 0;
            for (int k = 0; k < waiting; k++) {
                set |= 1 << row[k].kind;
            }
            return set;
        }

        private int remaining() {
            int steps = busy ? now.remaining() : 0;
            for (int k = 0; k < waiting; k++) {
                steps += row[k].remaining();
            }
            return steps;
        }
    }

    /** States as they were ahead of what may be undone, the oldest first. */
    private static final class Past {
        private final State[] kept = new State[MOST_KNOWN];
        private int known = 0;

        private Past() {
            for (int k = 0; k < MOST_KNOWN; k++) {
                kept[k] = new State();
            }
        }

        private void keep(State state) {
            if (known >= MOST_KNOWN) {
                forgetOldest();
            }
            kept[known].copyFrom(state);
            known++;
        }

        private void forgetOldest() {
            State oldest = kept[0];
            for (int k = 0; k + 1 < MOST_KNOWN; k++) {
                kept[k] = kept[k + 1];
            }
            kept[MOST_KNOWN - 1] = oldest;
            known = MOST_KNOWN - 1;
        }

        private void takeBack(State state) {
            if (known > 0) {
                known--;
                state.copyFrom(kept[known]);
            }
        }

        private void copyFrom(Past other) {
            for (int k = 0; k < other.known; k++) {
                kept[k].copyFrom(other.kept[k]);
            }
            known = other.known;
        }
    }

    /** Goes through the steps of a state, which stays as it is till settle is called. */
    private static final class Walk {
        private final State from;
        private final Piece now = new Piece();
        private boolean busy = false;
        private int taken = 0;
        private final int[] spot = new int[AXES];
        private final int[] move = new int[AXES];

        private Walk(State walked) {
            from = walked;
        }

        private void begin() {
            now.copyFrom(from.now);
            busy = from.busy;
            taken = 0;
            System.arraycopy(from.spot, 0, spot, 0, AXES);
        }

        /** Begins as if the first that waits were of this kind. */
        private void beginAs(int kind) {
            begin();
            if (!busy && takeNext()) {
                now.tell(kind, now.a, now.b, now.c);
            }
        }

        private boolean takeNext() {
            if (taken >= from.waiting) {
                return false;
            }
            now.copyFrom(from.row[taken]);
            taken++;
            busy = true;
            return true;
        }

        /** Does one step, if there is one. */
        private boolean advance() {
            if (!busy && !takeNext()) {
                return false;
            }
            now.advance(move);
            for (int axis = 0; axis < AXES; axis++) {
                spot[axis] += move[axis];
            }
            busy = now.remaining() > 0;
            return true;
        }

        /** The state becomes what it is behind the steps that were walked. */
        private void settle() {
            from.now.copyFrom(now);
            from.busy = busy;
            System.arraycopy(spot, 0, from.spot, 0, AXES);
            for (int k = 0; k < taken; k++) {
                from.removeAt(0);
            }
            taken = 0;
        }
    }

    /** A fraction that is not below 0; at first 0 by 1. */
    private static final class Fraction {
        private int above = 0;
        private int below = 1;

        private void raise(int otherAbove, int otherBelow) {
            if (otherAbove * below > above * otherBelow) {
                above = otherAbove;
                below = otherBelow;
            }
        }

        /** What is above (side 0) or below (side 1), in lowest terms. */
        private int lowest(int side) {
            int common = commonDivisor();
            if (common == 0) {
                return side;
            }
            return (side == 0 ? above : below) / common;
        }

        private int commonDivisor() {
            int greater = below;
            int less = above;
            for (int rounds = 0; rounds < 64 && less != 0; rounds++) {
                int rest = greater % less;
                greater = less;
                less = rest;
            }
            return greater;
        }
    }

    /** The tape, and how it is read as a plan. */
    private static final class Reader {
        private final char[] tape = new char[LONGEST_TAPE];
        private int length = 0;
        private final Piece[] pieces = new Piece[MOST_WAITING];
        private int found = 0;
        private final int[] numbers = new int[3];
        /** Where it reads; behind a fault, the place of that. */
        private int at = 0;

        private Reader() {
            for (int k = 0; k < MOST_WAITING; k++) {
                pieces[k] = new Piece();
            }
        }

        private boolean append(char letter) {
            if (length >= LONGEST_TAPE) {
                return false;
            }
            tape[length] = letter;
            length++;
            return true;
        }

        /** Whether the whole tape is a plan. */
        private boolean readPlan() {
            at = 0;
            found = 0;
            if (atEnd()) {
                return true;
            }
            for (int k = 0; k < MOST_WAITING; k++) {
                if (!readPiece(k)) {
                    return false;
                }
                found = k + 1;
                if (atEnd()) {
                    return true;
                }
                if (found == MOST_WAITING || !readSign(';')) {
                    return false;
                }
            }
            return false;
        }

        private boolean readPiece(int slot) {
            int kind = atEnd() ? -1 : LETTERS.indexOf(tape[at]);
            if (kind < 0) {
                return false;
            }
            int start = at;
            at++;
            for (int k = 0; k < 3; k++) {
                if (k > 0 && !readSign(',')) {
                    return false;
                }
                if (!readNumber(k)) {
                    return false;
                }
            }
            if (!fits(kind, numbers[0], numbers[1], numbers[2])) {
                at = start;
                return false;
            }
            pieces[slot].tell(kind, numbers[0], numbers[1], numbers[2]);
            return true;
        }

        private boolean readNumber(int k) {
            boolean negative = readSign('-');
            if (atEnd() || !digitIsNext()) {
                return false;
            }
            int number = 0;
            for (int digits = 0; digits < 2 && digitIsNext(); digits++) {
                number = 10 * number + (tape[at] - '0');
                at++;
            }
            if (digitIsNext()) {
                return false;
            }
            numbers[k] = negative ? -number : number;
            return true;
        }

        private boolean digitIsNext() {
            return at < length && tape[at] >= '0' && tape[at] <= '9';
        }

        private boolean readSign(char sign) {
            if (atEnd() || tape[at] != sign) {
                return false;
            }
            at++;
            return true;
        }

        /** Passes blanks over; whether nothing comes behind them. */
        private boolean atEnd() {
            while (at < length && tape[at] == ' ') {
                at++;
            }
            return at >= length;
        }
    }

    /** Room for a row of one lane; items are kept with the sign that the lane gives them. */
    private static final class Sheet {
        private final long[] items = new long[LONGEST_SHEET];
        private boolean there = false;
        private int lane = 0;
        private int size = 0;

        private void renew(int newLane, int newSize) {
            for (int k = 0; k < LONGEST_SHEET; k++) {
                items[k] = 0;
            }
            there = true;
            lane = newLane;
            size = newSize;
        }

        /** What forbids n items from i on to be taken as of a lane, or FINE. */
        private int refusal(int asLane, int i, int n) {
            if (!there) {
                return NULL;
            }
            if (lane != asLane) {
                return CAST;
            }
            return holds(i, n) ? FINE : INDEX;
        }

        private boolean holds(int i, int n) {
            return n >= 0 && i >= 0 && i <= size - n;
        }

        private long get(int i) {
            return i >= 0 && i < size ? items[i] : 0;
        }

        private void put(int i, long v) {
            if (i >= 0 && i < size) {
                items[i] = lowestBits(v);
            }
        }

        private long lowestBits(long v) {
            switch (lane) {
                case 0:
                    return (byte) v;
                case 1:
                    return (short) v;
                case 2:
                    return (int) v;
                default:
                    return v;
            }
        }
    }
}
