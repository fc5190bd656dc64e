import java.util.ArrayList;
import java.util.Arrays;
import java.util.EnumMap;
import java.util.EnumSet;
import java.util.HashMap;
import java.util.List;
import java.util.Map;
import java.util.Set;

/**
 * Calls on an object, line by line, with the answers that are due. Behind each call all that it may
 * not change is looked at, too: behind a refused one, and one that only looks, that is everything.
 */
final class Script {
    private static final long BAD = -1000001, FIRST_FAULT = -1000020;
    private static final int MOST_CALLS = 512;
    /** Behind more calls than these, looking at everything would go beyond what an object is used for. */
    private static final int MOST_LOOKED_BEHIND = 260;
    private static final Map<String, Long> WORDS = new HashMap<>();

    static {
        String[] words = {"LINE", "FAST", "EVEN", "LEFT", "RIGHT"};
        for (int kind = 0; kind < words.length; kind++) {
            WORDS.put(words[kind], (long) kind);
        }
        WORDS.putAll(Map.of("x", 0L, "y", 1L, "z", 2L, "byte", 0L, "short", 1L, "int", 2L, "long", 3L));
        WORDS.putAll(Map.of("BAD", BAD, "NOT", -1000002L, "FULL", -1000003L, "NONE", -1000004L, "NULL", -1000011L,
                "CAST", -1000012L, "INDEX", -1000013L, "SIZE", -1000014L));
        WORDS.put("MAX", (long) Integer.MAX_VALUE);
        WORDS.put("MIN", (long) Integer.MIN_VALUE);
    }

    private final List<String> faults = new ArrayList<>();
    private final Map<String, String> marks = new HashMap<>();
    private int answers = 0;

    private PulsedAxes live;
    private int made;
    private Rows rows;
    /** The calls that changed something, or may have. */
    private List<Call> kept;
    /** What was found out behind them. */
    private final Map<Probe.Part, String> found = new EnumMap<>(Probe.Part.class);

    Script() {
        begin();
    }

    List<String> faults() {
        return faults;
    }

    int answers() {
        return answers;
    }

    void run(List<String> lines) {
        for (String line : lines) {
            int before = faults.size();
            run(line);
            for (int k = before; k < faults.size(); k++) {
                faults.set(k, "'" + line + "': " + faults.get(k));
            }
        }
    }

    private void begin() {
        live = new PulsedAxes();
        made = 0;
        rows = new Rows();
        kept = new ArrayList<>();
        found.clear();
    }

    private void run(String line) {
        List<String> words = words(line);
        List<String> due = List.of();
        int equals = words.indexOf("=");
        if (equals >= 0) {
            due = words.subList(equals + 1, words.size());
            words = words.subList(0, equals);
        }
        int times = 1;
        if (words.size() > 2 && words.get(1).equals("times")) {
            times = Integer.parseInt(words.get(0));
            words = words.subList(2, words.size());
        }
        String name = words.get(0);
        List<String> rest = words.subList(1, words.size());
        switch (name) {
            case "new": begin(); break;
            case "tell": tell(rest.get(0), due); break;
            case "letters": letters(rest.get(0)); break;
            case "follow": follow(rest.get(0).substring(1)); break;
            case "fill": fill(numbers(rest), numbers(due)); break;
            case "way": way(rest); break;
            case "items": items(number(rest.get(0)), due); break;
            case "mark": marks.put(rest.get(0), Probe.state(Call.replay(kept))); break;
            case "as": as(rest.get(0)); break;
            default: calls(name, numbers(rest), due, times);
        }
    }

    /** Words stand apart by blanks; what stands in quotes is one word, and keeps the first of them. */
    private static List<String> words(String line) {
        List<String> words = new ArrayList<>();
        int quote = line.indexOf('"');
        if (quote < 0) {
            words.addAll(List.of(line.trim().split(" +")));
            return words;
        }
        int last = line.lastIndexOf('"');
        words.addAll(List.of(line.substring(0, quote).trim().split(" +")));
        words.add(line.substring(quote, last));
        String behind = line.substring(last + 1).trim();
        if (!behind.isEmpty()) {
            words.addAll(List.of(behind.split(" +")));
        }
        return words;
    }

    private static long number(String word) {
        if (word.startsWith("FAULT-")) {
            return FIRST_FAULT - Long.parseLong(word.substring(6));
        }
        if (word.startsWith("{")) {
            long set = 0;
            for (String kind : word.substring(1, word.length() - 1).split(",")) {
                set |= kind.isEmpty() ? 0 : 1L << WORDS.get(kind);
            }
            return set;
        }
        Long known = WORDS.get(word);
        return known != null ? known : Long.parseLong(word);
    }

    private static long[] numbers(List<String> words) {
        return words.stream().mapToLong(Script::number).toArray();
    }

    // ---- what a line can be

    /** With several answers the call is made for each: with 0, 1, .. as its last number. */
    private void calls(String name, long[] numbers, List<String> due, int times) {
        if (due.size() <= 1) {
            Long want = due.isEmpty() ? null : (Long) number(due.get(0));
            for (int k = 1; k <= times; k++) {
                call(new Call(name, numbers), k == times ? want : null, k == times);
            }
            return;
        }
        for (int what = 0; what < due.size(); what++) {
            long[] more = Arrays.copyOf(numbers, numbers.length + 1);
            more[numbers.length] = what;
            call(new Call(name, more), number(due.get(what)), true);
        }
    }

    private void letters(String quoted) {
        for (char letter : quoted.substring(1).toCharArray()) {
            call(new Call("type", letter), null, false);
        }
    }

    private void tell(String quoted, List<String> due) {
        letters(quoted);
        call(new Call("plan"), due.isEmpty() ? null : (Long) number(due.get(0)), true);
    }

    /** Behind a text (up to the |) just these letters (behind it) can stand; others are a fault there. */
    private void follow(String told) {
        int bar = told.indexOf('|');
        for (char letter = ' '; letter <= '~'; letter++) {
            PulsedAxes x = Call.replay(kept);
            for (char typed : told.substring(0, bar).toCharArray()) {
                x.type(typed);
            }
            x.type(letter);
            int answer = x.plan();
            boolean stands = told.indexOf(letter, bar + 1) > 0;
            due("plan() behind '" + letter + "' (" + answer + ") is a fault there",
                    answer == FIRST_FAULT - bar ? 1 : 0, stands ? 0 : 1);
        }
    }

    /** A new sheet with these items. */
    private void fill(long[] sheetAndLane, long[] items) {
        call(new Call("sheet", sheetAndLane[0], sheetAndLane[1], items.length), (long) items.length, false);
        for (int i = 0; i < items.length; i++) {
            call(new Call("item", sheetAndLane[0], sheetAndLane[1], i, items[i]), 1L, i + 1 == items.length);
        }
    }

    /** The places behind each step till the end, by looking and by doing. */
    private void way(List<String> places) {
        PulsedAxes looked = Call.replay(kept);
        PulsedAxes done = Call.replay(kept);
        due("count(3)", looked.count(3), places.size());
        for (int n = 1; n <= places.size(); n++) {
            String[] at = places.get(n - 1).split(",");
            due("step(1)", done.step(1), 1);
            for (int axis = 0; axis < 3; axis++) {
                long want = Long.parseLong(at[axis]);
                due("where(" + n + ", " + axis + ")", looked.where(n, axis), want);
                due("place(" + axis + ") behind " + n, done.place(axis), want);
            }
        }
        due("step(1) at the end", done.step(1), 0);
    }

    private void items(long sheet, List<String> due) {
        int at = (int) sheet;
        String told = Probe.items(kept, at, rows.has(at) ? rows.lane(at) : 0, numbers(due));
        answers += due.size();
        if (told.contains("not") || told.contains("(")) {
            faults.add(told);
        }
        due("drop(" + sheet + ")", Call.replay(kept).drop(at), due.size());
    }

    private void as(String mark) {
        String now = Probe.state(Call.replay(kept));
        answers++;
        if (!now.equals(marks.get(mark))) {
            faults.add("it is" + now + "\nand it was" + marks.get(mark));
        }
    }

    // ---- a call

    private void due(String call, long got, long want) {
        answers++;
        if (got != want) {
            faults.add(call + " answered " + got + ", due is " + want);
        }
    }

    /** want is null where any answer will do that is no refusal. */
    private void call(Call call, Long want, boolean look) {
        long got = call.on(live);
        made++;
        if (made > MOST_CALLS) {
            faults.add("more than " + MOST_CALLS + " calls");
        }
        if (want != null) {
            due(call.toString(), got, want);
        } else if (got <= BAD) {
            faults.add(call + " is refused: " + got);
        }
        boolean refused = got <= BAD && !call.name().equals("plan");
        if (look && kept.size() < MOST_LOOKED_BEHIND) {
            lookBehind(call, refused, got <= BAD);
        } else if (!refused && !call.looks()) {
            keep(call);
        }
    }

    private void keep(Call call) {
        rows.take(call, kept);
        kept.add(call);
        found.clear();
    }

    private void lookBehind(Call call, boolean refused, boolean fault) {
        Map<Probe.Part, String> ahead = new EnumMap<>(Probe.Part.class);
        Set<Probe.Part> stays = EnumSet.allOf(Probe.Part.class);
        stays.removeAll(refused ? Set.of() : mayChange(call.name(), fault));
        for (Probe.Part part : stays) {
            ahead.put(part, ask(part));
        }
        List<Call> before = new ArrayList<>(kept);
        keepRefusedToo(call, refused);
        for (Probe.Part part : stays) {
            String behind = ask(part);
            if (!behind.equals(ahead.get(part))) {
                faults.add(call + " changes " + part + "\nfrom " + ahead.get(part) + "\nto " + behind);
            }
        }
        if (!refused && mayChange(call.name(), fault).contains(Probe.Part.SHEETS)
                && ask(Probe.Part.SHEETS).contains("not")) {
            faults.add("the sheets are not as told:" + ask(Probe.Part.SHEETS));
        }
        if (call.name().equals("plan") && !ask(Probe.Part.TAPE).equals(Probe.ask(Probe.Part.TAPE, List.of(), rows))) {
            faults.add("the tape is not empty:" + ask(Probe.Part.TAPE));
        }
        if (refused || call.looks()) {
            kept = before;
            found.clear();
            found.putAll(ahead);
        }
    }

    private void keepRefusedToo(Call call, boolean refused) {
        if (refused) {
            kept.add(call);
            found.clear();
        } else {
            keep(call);
        }
    }

    private String ask(Probe.Part part) {
        return found.computeIfAbsent(part, asked -> Probe.ask(asked, kept, rows));
    }

    private static Set<Probe.Part> mayChange(String name, boolean fault) {
        switch (name) {
            case "type":
                return EnumSet.of(Probe.Part.TAPE);
            case "plan":
                return fault ? EnumSet.of(Probe.Part.TAPE) : EnumSet.of(Probe.Part.TAPE, Probe.Part.STATE);
            case "image":
                return EnumSet.of(Probe.Part.IMAGE);
            case "film":
            case "sheet":
            case "drop":
            case "item":
            case "copy":
                return EnumSet.of(Probe.Part.SHEETS);
            default:
                return new Call(name).looks() ? EnumSet.noneOf(Probe.Part.class) : EnumSet.of(Probe.Part.STATE);
        }
    }
}
