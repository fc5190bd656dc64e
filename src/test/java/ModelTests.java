import java.math.BigInteger;
import java.util.ArrayDeque;
import java.util.ArrayList;
import java.util.Arrays;
import java.util.Collections;
import java.util.Comparator;
import java.util.List;
import java.util.Random;

/**
 * Random runs of calls (from fixed seeds) against a second, slow writing of the document: it keeps
 * whole lists of moves, changes no state in place, tries numbers out where the program divides, and
 * reads plans letter by letter. So a slip in one of the two shows.
 */
public final class ModelTests {
    private static final int RUNS = 6000;
    private static final int CALLS = 120;
    /** All that an object is used for: so long is each tenth run. */
    private static final int MOST_CALLS = 512;
    private static final int BAD = -1000001, NOT = -1000002, FULL = -1000003, NONE = -1000004;
    private static final int NULL = -1000011, CAST = -1000012, INDEX = -1000013, SIZE = -1000014;

    public static void main(String[] args) {
        int wrong = 0;
        int[] refused = new int[1];
        int[] made = new int[1];
        for (int run = 1; run <= RUNS && wrong < 5; run++) {
            wrong += oneRun(run, made, refused);
        }
        System.out.println(made[0] + " random calls (" + refused[0] + " refused), " + wrong + " runs wrong");
        if (wrong != 0) {
            System.exit(1);
        }
    }

    /** A run ends with its first wrong answer, which is printed with all calls up to it. */
    private static int oneRun(int run, int[] made, int[] refused) {
        Random random = new Random(run);
        PulsedAxes x = new PulsedAxes();
        Model model = new Model();
        Caller caller = new Caller(random, model);
        List<String> told = new ArrayList<>();
        int calls = run % 10 == 0 ? MOST_CALLS : CALLS;
        for (int k = 0; k < calls; k++) {
            made[0]++;
            Call call = caller.draw();
            long want = model.answer(call);
            long got = call.on(x);
            told.add(call + " -> " + got);
            if (want < -1000000) {
                refused[0]++;
            }
            if (got != want) {
                System.out.println("run " + run + ":");
                told.forEach(System.out::println);
                System.out.println("due is " + want);
                return 1;
            }
        }
        return 0;
    }

    /** Draws calls that mostly mean something, and now and then numbers that are just over an edge. */
    private static final class Caller {
        private static final String[] NAMES = {
            "place", "place", "piece", "piece", "count", "count", "push", "push", "push", "jump", "jump", "purge",
            "stop", "hold", "step", "step", "step", "drift", "drift", "undo", "undo", "undo", "seed", "where", "where",
            "pulses", "pulses", "next", "next", "meets", "meets", "reach", "reach", "off", "off", "lost", "lost",
            "image", "restore", "came", "came", "came", "film", "film", "sheet", "sheet", "drop", "item", "item",
            "copy", "copy", "text", "text"};
        private final Random random;
        private final Model model;
        private final ArrayDeque<Call> ready = new ArrayDeque<>();

        Caller(Random random, Model model) {
            this.random = random;
            this.model = model;
        }

        Call draw() {
            if (!ready.isEmpty()) {
                return ready.poll();
            }
            String name = NAMES[random.nextInt(NAMES.length)];
            if (name.equals("text")) {
                for (char letter : text().toCharArray()) {
                    ready.add(call("type", letter));
                }
                ready.add(call("plan"));
                return ready.poll();
            }
            return call(name, numbersFor(name));
        }

        private static Call call(String name, long... numbers) {
            return new Call(name, numbers);
        }

        private long[] numbersFor(String name) {
            int[] p = model.state.places;
            switch (name) {
                case "place": return row(upTo(2));
                case "piece": return row(from(-1, Math.max(0, model.state.waiting.size() - 1)), upTo(4));
                case "count": return row(upTo(5));
                case "push":
                case "jump": return aPiece();
                case "purge": return row(upTo(4));
                case "step": return row(random.nextInt(3) == 0 ? from(1, 200) : from(1, 9));
                case "drift": return row(random.nextInt(3) == 0 ? from(1, 40) : from(1, 4));
                case "seed": return row(random.nextInt());
                case "where": return row(random.nextInt(9) == 0 ? Integer.MAX_VALUE : from(0, 60), upTo(2));
                case "pulses":
                case "reach": return row(upTo(2), upTo(1));
                case "next": return row(upTo(2), upTo(40));
                case "meets": return somewhere();
                case "off": return row(upTo(1));
                case "lost": return aLoss();
                case "came": return aSheetCall(from(1, 6));
                case "film": return aFilm();
                case "sheet": return row(upTo(3), upTo(3), random.nextInt(2) == 0 ? 24 : from(0, 24));
                case "drop": return row(upTo(3));
                case "item": return anItem(p[0]);
                case "copy": return row(upTo(3), upTo(12), upTo(3), upTo(12), upTo(12));
                default: return row();
            }
        }

        private static long[] row(long... numbers) {
            return numbers;
        }

        private int upTo(int most) {
            return from(0, most);
        }

        private int from(int least, int most) {
            if (random.nextInt(25) == 0) {
                int[] over = {least - 1, most + 1, Integer.MIN_VALUE, Integer.MAX_VALUE, least, most};
                return over[random.nextInt(over.length)];
            }
            return least + random.nextInt(most - least + 1);
        }

        private long[] aPiece() {
            int kind = from(0, 4);
            int most = kind >= 3 ? 10 : 15;
            if (random.nextInt(2) == 0) {
                most = 4;
            }
            int c = kind < 3 ? from(-most, most) : random.nextInt(2) == 0 ? from(1, 99) : from(1, 12);
            return row(kind, random.nextInt(4) == 0 ? 0 : from(-most, most), from(-most, most), c);
        }

        private long[] somewhere() {
            List<int[]> way = model.way(model.state);
            int n = random.nextInt(way.size());
            int[] at = way.get(random.nextInt(3) == 0 ? n : Math.min(n, random.nextInt(8))).clone();
            if (random.nextInt(4) == 0) {
                at[random.nextInt(3)]++;
            }
            return row(at[0], at[1], at[2]);
        }

        private long[] aLoss() {
            int n = from(0, Math.min(6, model.left(model.state)));
            int[] at = model.state.places.clone();
            List<int[]> moves = model.moves(model.state);
            for (int k = 0; k < n && k < moves.size(); k++) {
                for (int axis = 0; axis < 3 && random.nextBoolean(); axis++) {
                    at[axis] += moves.get(k)[axis];
                }
            }
            return row(n, from(0, 10), at[0], at[1], at[2], upTo(1));
        }

        private long[] aSheetCall(int n) {
            int sheet = random.nextInt(3) == 0 ? upTo(3) : model.lastFilmed;
            int lane = sheet >= 0 && sheet < 4 && model.sheets[sheet] != null && random.nextInt(9) > 0
                    ? model.lanes[sheet] : upTo(3);
            int i = random.nextInt(3) == 0 ? from(0, 24) : model.lastFilmedFrom;
            return row(sheet, lane, i, n);
        }

        private long[] aFilm() {
            long[] c = aSheetCall(0);
            return row(from(1, random.nextBoolean() ? 6 : 12), c[0], c[1], random.nextInt(2) == 0 ? 0 : c[2]);
        }

        private long[] anItem(int place) {
            long[] c = aSheetCall(0);
            long v = random.nextInt(3) == 0 ? random.nextLong() : place + random.nextInt(3) - 1;
            return row(c[0], c[1], from(0, 11), v);
        }

        private String text() {
            StringBuilder text = new StringBuilder();
            int pieces = random.nextInt(9) == 0 ? 11 + random.nextInt(3) : random.nextInt(5);
            for (int k = 0; k < pieces; k++) {
                long[] p = aPiece();
                int kind = (int) Math.floorMod(p[0], 5L);
                text.append(k > 0 ? ";" : "").append("lfecr".charAt(kind));
                for (int j = 1; j <= 3; j++) {
                    long shown = pieces > 9 ? 1 : p[j] % 100;
                    text.append(j > 1 ? "," : "").append(shown);
                }
            }
            int slips = random.nextInt(2) * random.nextInt(4);
            for (int k = 0; k < slips; k++) {
                slip(text);
            }
            return text.toString();
        }

        private void slip(StringBuilder text) {
            String letters = "    lfecrx;,--0123456789";
            int at = random.nextInt(text.length() + 1);
            if (at < text.length() && random.nextInt(3) == 0) {
                text.deleteCharAt(at);
            } else {
                text.insert(at, letters.charAt(random.nextInt(letters.length())));
            }
        }
    }

    private record Piece(int kind, int a, int b, int c) {
        static boolean may(int kind, int a, int b, int c) {
            switch (kind) {
                case 0:
                case 1:
                case 2:
                    return Math.max(a, Math.max(b, c)) <= 15 && Math.min(a, Math.min(b, c)) >= -15
                            && !(a == 0 && b == 0 && c == 0);
                case 3:
                case 4:
                    return Math.max(a, b) <= 10 && Math.min(a, b) >= -10 && !(a == 0 && b == 0) && c > 0 && c < 100;
                default:
                    return false;
            }
        }

        int turns() {
            return Collections.max(List.of(a, b, c, -a, -b, -c));
        }

        int[] ways() {
            return new int[] {a, b, c};
        }

        /** Tries all whole numbers from 0 on: the first of the nearest is the one nearer to 0. */
        int gone(int k, int way) {
            int size = way < 0 ? -way : way;
            int best = 0;
            if (kind == 1) {
                best = k > size ? size : k;
            } else {
                for (int far = 1; far <= size; far++) {
                    if (Math.abs(far * turns() - k * size) < Math.abs(best * turns() - k * size)) {
                        best = far;
                    }
                }
            }
            return way < 0 ? -best : best;
        }

        List<int[]> moves() {
            return kind < 3 ? straight() : round();
        }

        private List<int[]> straight() {
            List<int[]> moves = new ArrayList<>();
            for (int k = 1; k <= turns(); k++) {
                int[] all = new int[3];
                for (int axis = 0; axis < 3; axis++) {
                    all[axis] = gone(k, ways()[axis]) - gone(k - 1, ways()[axis]);
                    if (kind == 2 && all[axis] != 0) {
                        int[] alone = new int[3];
                        alone[axis] = all[axis];
                        moves.add(alone);
                    }
                }
                if (kind != 2) {
                    moves.add(all);
                }
            }
            return moves;
        }

        private List<int[]> round() {
            List<int[]> moves = new ArrayList<>();
            int x = 0;
            int y = 0;
            for (int k = 0; k < c; k++) {
                int u = x - a;
                int v = y - b;
                int dx = Integer.signum(kind == 3 ? -v : v);
                int dy = Integer.signum(kind == 3 ? u : -u);
                List<int[]> choices = new ArrayList<>();
                if (dx != 0) {
                    choices.add(new int[] {dx, 0, 0});
                }
                if (dy != 0) {
                    choices.add(new int[] {0, dy, 0});
                }
                if (dx != 0 && dy != 0) {
                    choices.add(new int[] {dx, dy, 0});
                }
                int[] best = Collections.min(choices, Comparator.comparingInt(move -> apart(u, v, move)));
                moves.add(best);
                x += best[0];
                y += best[1];
            }
            return moves;
        }

        private int apart(int u, int v, int[] move) {
            int now = (u + move[0]) * (u + move[0]) + (v + move[1]) * (v + move[1]);
            return Math.abs(now - (a * a + b * b));
        }
    }

    /** rest: the moves that are left of what is now (empty: nothing is). */
    private record State(List<Piece> waiting, Piece now, List<int[]> rest, int[] places, boolean held, long draw) {
        State waits(List<Piece> others) {
            return new State(others, now, rest, places, held, draw);
        }

        State draws(long v) {
            return new State(waiting, now, rest, places, held, v);
        }
    }

    private static final class Model {
        private State state = new State(List.of(), null, List.of(), new int[3], false, 1);
        private List<State> past = List.of();
        private State imageState = null;
        private List<State> imagePast = null;
        private String tape = "";
        private final long[][] sheets = new long[4][];
        private final int[] lanes = new int[4];
        private int lastFilmed = 0;
        private int lastFilmedFrom = 0;

        // ---- the way ahead

        List<int[]> moves(State from) {
            List<int[]> moves = new ArrayList<>(from.rest);
            for (Piece p : from.waiting) {
                moves.addAll(p.moves());
            }
            return moves;
        }

        int left(State from) {
            return moves(from).size();
        }

        /** The places behind 0, 1, .. all steps. */
        List<int[]> way(State from) {
            List<int[]> way = new ArrayList<>();
            int[] at = from.places;
            way.add(at);
            for (int[] move : moves(from)) {
                at = new int[] {at[0] + move[0], at[1] + move[1], at[2] + move[2]};
                way.add(at);
            }
            return way;
        }

        private State stepped(State from) {
            if (from.rest.isEmpty() && from.waiting.isEmpty()) {
                return from;
            }
            State s = from;
            if (s.rest.isEmpty()) {
                Piece first = s.waiting.get(0);
                s = new State(s.waiting.subList(1, s.waiting.size()), first, first.moves(), s.places, s.held, s.draw);
            }
            int[] m = s.rest.get(0);
            int[] p = s.places;
            int[] at = {p[0] + m[0], p[1] + m[1], p[2] + m[2]};
            return new State(s.waiting, s.now, s.rest.subList(1, s.rest.size()), at, s.held, s.draw);
        }

        private void becomes(State other) {
            List<State> longer = new ArrayList<>(past);
            longer.add(state);
            past = longer.subList(Math.max(0, longer.size() - 6), longer.size());
            state = other;
        }

        private static List<Piece> with(List<Piece> row, int at, Piece more) {
            List<Piece> longer = new ArrayList<>(row);
            longer.add(at, more);
            return longer;
        }

        // ---- the calls

        long answer(Call c) {
            switch (c.name()) {
                case "place": return axis(c.at(0)) ? state.places[c.at(0)] : BAD;
                case "piece": return pieceOf(c.at(0), c.at(1));
                case "type": return typed(c.at(0));
                case "plan": return planned();
                case "count": return counted(c.at(0));
                case "push": return added(c, state.waiting.size());
                case "jump": return added(c, 0);
                case "purge": return purged(c.at(0));
                case "stop": return stopped();
                case "hold": return heldOrNot();
                case "step": return steppedBy(c.at(0));
                case "drift": return drifted(c.at(0));
                case "undo": return undone();
                case "seed": return seeded(c.at(0));
                default: return answerLooked(c);
            }
        }

        private long answerLooked(Call c) {
            switch (c.name()) {
                case "where": return whereIs(c.at(0), c.at(1));
                case "pulses": return pulsed(c.at(0), c.at(1));
                case "next": return nextOf(c.at(0), c.at(1));
                case "meets": return met(c.at(0), c.at(1), c.at(2));
                case "reach": return reached(c.at(0), c.at(1));
                case "off": return offLine(c.at(0));
                case "lost": return odds(c);
                case "image":
                    imageState = state;
                    imagePast = past;
                    return 1;
                case "restore": return restored();
                case "came": return cameSo(c.at(0), c.at(1), c.at(2), c.at(3));
                case "film": return filmed(c.at(0), c.at(1), c.at(2), c.at(3));
                case "sheet": return sheeted(c.at(0), c.at(1), c.at(2));
                case "drop": return dropped(c.at(0));
                case "item": return set(c.at(0), c.at(1), c.at(2), c.numbers()[3]);
                case "copy": return copied(c);
                default: throw new IllegalArgumentException(c.name());
            }
        }

        private static boolean axis(int axis) {
            return axis == 0 || axis == 1 || axis == 2;
        }

        private long pieceOf(int k, int what) {
            if (what < 0 || what > 4 || k < -1 || k >= state.waiting.size()) {
                return BAD;
            }
            if (k == -1 && state.rest.isEmpty()) {
                return NONE;
            }
            Piece p = k == -1 ? state.now : state.waiting.get(k);
            int left = k == -1 ? state.rest.size() : p.moves().size();
            return List.of(p.kind, p.a, p.b, p.c, left).get(what);
        }

        private long typed(int letter) {
            if (letter < ' ' || letter > '~') {
                return BAD;
            }
            if (tape.length() == 140) {
                return FULL;
            }
            tape += (char) letter;
            return tape.length();
        }

        private long planned() {
            Scan scan = new Scan(tape);
            tape = "";
            long fault = scan.fault();
            if (fault >= 0) {
                return -1000020 - fault;
            }
            state = new State(scan.pieces, null, List.of(), new int[3], false, state.draw);
            past = List.of();
            return scan.pieces.size();
        }

        private long counted(int what) {
            int kinds = 0;
            for (Piece p : state.waiting) {
                kinds |= 1 << p.kind;
            }
            switch (what) {
                case 0: return state.waiting.size();
                case 1: return state.rest.isEmpty() ? 0 : 1;
                case 2: return state.held ? 1 : 0;
                case 3: return left(state);
                case 4: return kinds;
                case 5: return past.size();
                default: return BAD;
            }
        }

        private long added(Call c, int at) {
            if (!Piece.may(c.at(0), c.at(1), c.at(2), c.at(3))) {
                return BAD;
            }
            if (state.waiting.size() == 12) {
                return FULL;
            }
            becomes(state.waits(with(state.waiting, at, new Piece(c.at(0), c.at(1), c.at(2), c.at(3)))));
            return state.waiting.size();
        }

        private long purged(int kind) {
            if (kind < 0 || kind > 4) {
                return BAD;
            }
            List<Piece> stay = new ArrayList<>(state.waiting);
            stay.removeIf(p -> p.kind == kind);
            int went = state.waiting.size() - stay.size();
            if (went == 0) {
                return NOT;
            }
            becomes(state.waits(stay));
            return went;
        }

        private long stopped() {
            int had = state.rest.size();
            if (had == 0) {
                return NOT;
            }
            becomes(new State(state.waiting, null, List.of(), state.places, state.held, state.draw));
            return had;
        }

        private long heldOrNot() {
            becomes(new State(state.waiting, state.now, state.rest, state.places, !state.held, state.draw));
            return state.held ? 1 : 0;
        }

        private long steppedBy(int n) {
            if (n < 1 || n > 200) {
                return BAD;
            }
            if (state.held) {
                return NOT;
            }
            int ahead = left(state);
            State s = state;
            for (int k = 0; k < n; k++) {
                s = stepped(s);
            }
            becomes(s);
            return ahead - left(s);
        }

        private long drifted(int n) {
            if (n < 1 || n > 40) {
                return BAD;
            }
            for (int k = 0; k < n; k++) {
                long draw = BigInteger.valueOf(state.draw).multiply(BigInteger.valueOf(1103515245L))
                        .add(BigInteger.valueOf(12345)).mod(BigInteger.ONE.shiftLeft(31)).longValueExact();
                int x = (int) (draw / 65536);
                State s = state.draws(draw);
                if (x % 3 > 0) {
                    s = stepped(s);
                } else if (s.waiting.size() < 12) {
                    Piece more = new Piece((x / 3) % 3, (x / 16) % 9 - 4, (x / 256) % 9 - 4, 1);
                    s = s.waits(with(s.waiting, s.waiting.size(), more));
                }
                becomes(s);
            }
            return left(state);
        }

        private long undone() {
            if (past.isEmpty()) {
                return NONE;
            }
            state = past.get(past.size() - 1);
            past = past.subList(0, past.size() - 1);
            return past.size();
        }

        private long seeded(int v) {
            if (v < 0) {
                return BAD;
            }
            long was = state.draw;
            state = state.draws(v);
            return was;
        }

        private long whereIs(int n, int axis) {
            if (n < 0 || !axis(axis)) {
                return BAD;
            }
            List<int[]> way = way(state);
            return way.get(Math.min(n, way.size() - 1))[axis];
        }

        private String pulsesOf(int axis) {
            StringBuilder row = new StringBuilder();
            for (int[] move : moves(state)) {
                row.append(move[axis] == 0 ? '.' : '!');
            }
            return row.toString();
        }

        private long pulsed(int axis, int what) {
            if (!axis(axis) || what < 0 || what > 1) {
                return BAD;
            }
            String row = pulsesOf(axis);
            if (what == 0) {
                return row.chars().filter(sign -> sign == '!').count();
            }
            int rest = 0;
            while (row.contains(".".repeat(rest + 1))) {
                rest++;
            }
            return rest;
        }

        private long nextOf(int axis, int k) {
            if (!axis(axis) || k < 0) {
                return BAD;
            }
            int at = pulsesOf(axis).indexOf('!', k);
            return at < 0 ? NONE : at;
        }

        private long met(int x, int y, int z) {
            List<int[]> way = way(state);
            for (int k = 0; k < way.size(); k++) {
                if (Arrays.equals(way.get(k), new int[] {x, y, z})) {
                    return k;
                }
            }
            return NONE;
        }

        private long reached(int axis, int what) {
            if (!axis(axis) || what < 0 || what > 1) {
                return BAD;
            }
            List<Integer> all = new ArrayList<>();
            for (int[] at : way(state)) {
                all.add(at[axis]);
            }
            return what == 0 ? Collections.min(all) : Collections.max(all);
        }

        /** Over 360360, which all of 1 .. 15 divide, fractions are whole numbers. */
        private long offLine(int what) {
            if (what < 0 || what > 1) {
                return BAD;
            }
            long most = 0;
            List<Piece> all = new ArrayList<>(state.waiting);
            if (!state.rest.isEmpty()) {
                all.add(state.now);
            }
            for (Piece p : all) {
                for (int k = 1; p.kind < 3 && k <= p.turns(); k++) {
                    for (int way : p.ways()) {
                        most = Math.max(most, Math.abs(p.gone(k, way) * 360360L - 360360L / p.turns() * k * way));
                    }
                }
            }
            return lowest(BigInteger.valueOf(most), BigInteger.valueOf(360360), what);
        }

        private static long lowest(BigInteger above, BigInteger below, int what) {
            BigInteger common = above.gcd(below);
            return (what == 0 ? above : below).divide(common).longValueExact();
        }

        private long odds(Call c) {
            int n = c.at(0);
            if (n < 0 || n > 6 || n > left(state) || c.at(1) < 0 || c.at(1) > 10 || c.at(5) < 0 || c.at(5) > 1) {
                return BAD;
            }
            int[] to = {c.at(2), c.at(3), c.at(4)};
            long ways = ways(moves(state).subList(0, n), state.places, c.at(1), to);
            return lowest(BigInteger.valueOf(ways), BigInteger.TEN.pow(n), c.at(5));
        }

        private static long ways(List<int[]> moves, int[] at, int c, int[] to) {
            if (moves.isEmpty()) {
                return Arrays.equals(at, to) ? 1 : 0;
            }
            int[] m = moves.get(0);
            int[] kept = {at[0] + m[0], at[1] + m[1], at[2] + m[2]};
            List<int[]> others = moves.subList(1, moves.size());
            return c * ways(others, at, c, to) + (10 - c) * ways(others, kept, c, to);
        }

        private long restored() {
            if (imageState == null) {
                return NONE;
            }
            state = imageState;
            past = imagePast;
            return 1;
        }

        // ---- sheets

        private long refusal(boolean bad, int sheet, int lane, int i, int n) {
            if (bad || sheet < 0 || sheet > 3 || lane < 0 || lane > 3) {
                return BAD;
            }
            if (sheets[sheet] == null) {
                return NULL;
            }
            if (lanes[sheet] != lane) {
                return CAST;
            }
            return within(sheet, i, n) ? 0 : INDEX;
        }

        private boolean within(int sheet, int i, int n) {
            return i >= 0 && n >= 0 && (long) i + n <= sheets[sheet].length;
        }

        private long cameSo(int sheet, int lane, int i, int n) {
            long refused = refusal(n < 1 || n > 6, sheet, lane, i, 2 * n);
            if (refused != 0) {
                return refused;
            }
            if (!state.rest.isEmpty() || state.waiting.isEmpty()) {
                return NOT;
            }
            Piece first = state.waiting.get(0);
            List<Piece> others = state.waiting.subList(1, state.waiting.size());
            long kinds = 0;
            for (int kind = 0; kind < 5; kind++) {
                if (Piece.may(kind, first.a, first.b, first.c)) {
                    List<int[]> way = way(state.waits(with(others, 0, new Piece(kind, first.a, first.b, first.c))));
                    boolean so = way.size() > n;
                    for (int k = 1; k <= n && so; k++) {
                        so = way.get(k)[0] == sheets[sheet][i + 2 * k - 2] && way.get(k)[1] == sheets[sheet][i + 2 * k - 1];
                    }
                    kinds += so ? 1 << kind : 0;
                }
            }
            return kinds;
        }

        private long filmed(int n, int sheet, int lane, int i) {
            long refused = refusal(n < 1 || n > 12, sheet, lane, i, 2 * n);
            if (refused != 0) {
                return refused;
            }
            for (int k = 1; k <= n; k++) {
                put(sheet, i + 2 * k - 2, whereIs(k, 0));
                put(sheet, i + 2 * k - 1, whereIs(k, 1));
            }
            lastFilmed = sheet;
            lastFilmedFrom = i;
            return 2 * n;
        }

        private void put(int sheet, int i, long v) {
            int cut = 64 - (8 << lanes[sheet]);
            sheets[sheet][i] = v << cut >> cut;
        }

        private long sheeted(int sheet, int lane, int n) {
            if (sheet < 0 || sheet > 3 || lane < 0 || lane > 3 || n > 24) {
                return BAD;
            }
            if (n < 0) {
                return SIZE;
            }
            sheets[sheet] = new long[n];
            lanes[sheet] = lane;
            return n;
        }

        private long dropped(int sheet) {
            if (sheet < 0 || sheet > 3) {
                return BAD;
            }
            if (sheets[sheet] == null) {
                return NULL;
            }
            int had = sheets[sheet].length;
            sheets[sheet] = null;
            return had;
        }

        private long set(int sheet, int lane, int i, long v) {
            long refused = refusal(false, sheet, lane, i, 1);
            if (refused == 0) {
                put(sheet, i, v);
                return 1;
            }
            return refused;
        }

        private long copied(Call c) {
            int from = c.at(0);
            int to = c.at(2);
            int n = c.at(4);
            if (from < 0 || from > 3 || to < 0 || to > 3) {
                return BAD;
            }
            if (sheets[from] == null || sheets[to] == null) {
                return NULL;
            }
            if (lanes[from] != lanes[to]) {
                return CAST;
            }
            if (!within(from, c.at(1), n) || !within(to, c.at(3), n)) {
                return INDEX;
            }
            long[] taken = Arrays.copyOfRange(sheets[from], c.at(1), c.at(1) + n);
            for (int k = 0; k < n; k++) {
                sheets[to][c.at(3) + k] = taken[k];
            }
            return n;
        }
    }

    /** Reads a plan letter by letter, knowing at each what may stand there. */
    private static final class Scan {
        private enum At { BEGIN, LETTER, NUMBER, DIGIT, ONE, TWO, ENDED }

        private final String text;
        private final List<Piece> pieces = new ArrayList<>();
        private final List<Integer> numbers = new ArrayList<>();
        private At at = At.BEGIN;
        private int kind = 0;
        private int start = 0;
        private int sign = 1;
        private int number = 0;
        private boolean noPiece = false;

        Scan(String text) {
            this.text = text;
        }

        /** The place of the first fault, or -1. */
        long fault() {
            for (int k = 0; k < text.length(); k++) {
                boolean may = takes(text.charAt(k), k);
                if (noPiece) {
                    return start;
                }
                if (!may) {
                    return k;
                }
            }
            endNumber();
            if (noPiece) {
                return start;
            }
            boolean whole = at == At.BEGIN || at == At.ENDED && numbers.size() == 3;
            return whole ? -1 : text.length();
        }

        private boolean takes(char letter, int k) {
            if (letter >= '0' && letter <= '9') {
                return takesDigit(letter - '0');
            }
            endNumber();
            if (noPiece) {
                return false;
            }
            if (letter == ' ') {
                return true;
            }
            if (letter == '-') {
                boolean may = at == At.NUMBER;
                at = At.DIGIT;
                sign = -1;
                return may;
            }
            if (letter == ',') {
                boolean may = at == At.ENDED && numbers.size() < 3;
                at = At.NUMBER;
                return may;
            }
            if (letter == ';') {
                boolean may = at == At.ENDED && numbers.size() == 3 && pieces.size() < 12;
                at = At.LETTER;
                return may;
            }
            boolean may = (at == At.BEGIN || at == At.LETTER) && "lfecr".indexOf(letter) >= 0;
            kind = "lfecr".indexOf(letter);
            start = k;
            numbers.clear();
            at = At.NUMBER;
            return may;
        }

        private boolean takesDigit(int digit) {
            switch (at) {
                case NUMBER:
                case DIGIT:
                    number = digit;
                    at = At.ONE;
                    return true;
                case ONE:
                    number = number * 10 + digit;
                    at = At.TWO;
                    return true;
                default:
                    return false;
            }
        }

        private void endNumber() {
            if (at != At.ONE && at != At.TWO) {
                return;
            }
            numbers.add(sign * number);
            sign = 1;
            at = At.ENDED;
            if (numbers.size() == 3) {
                noPiece = !Piece.may(kind, numbers.get(0), numbers.get(1), numbers.get(2));
                pieces.add(new Piece(kind, numbers.get(0), numbers.get(1), numbers.get(2)));
            }
        }
    }
}
