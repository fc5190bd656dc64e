import java.util.Arrays;
import java.util.List;
import java.util.Set;

/** One call of the class: its name and its numbers. */
record Call(String name, long... numbers) {
    /** Calls that tell something and change nothing. */
    private static final Set<String> LOOKS = Set.of("place", "piece", "count", "where", "pulses", "next", "meets",
            "reach", "off", "lost", "came");

    static PulsedAxes replay(List<Call> calls) {
        PulsedAxes x = new PulsedAxes();
        for (Call call : calls) {
            call.on(x);
        }
        return x;
    }

    boolean looks() {
        return LOOKS.contains(name);
    }

    int at(int k) {
        return (int) numbers[k];
    }

    long on(PulsedAxes x) {
        switch (name) {
            case "place": return x.place(at(0));
            case "piece": return x.piece(at(0), at(1));
            case "type": return x.type(at(0));
            case "plan": return x.plan();
            case "count": return x.count(at(0));
            case "push": return x.push(at(0), at(1), at(2), at(3));
            case "jump": return x.jump(at(0), at(1), at(2), at(3));
            case "purge": return x.purge(at(0));
            case "stop": return x.stop();
            case "hold": return x.hold();
            case "step": return x.step(at(0));
            case "drift": return x.drift(at(0));
            case "undo": return x.undo();
            case "seed": return x.seed(at(0));
            case "where": return x.where(at(0), at(1));
            case "pulses": return x.pulses(at(0), at(1));
            case "next": return x.next(at(0), at(1));
            case "meets": return x.meets(at(0), at(1), at(2));
            case "reach": return x.reach(at(0), at(1));
            case "off": return x.off(at(0));
            case "lost": return x.lost(at(0), at(1), at(2), at(3), at(4), at(5));
            case "image": return x.image();
            case "restore": return x.restore();
            case "came": return x.came(at(0), at(1), at(2), at(3));
            case "film": return x.film(at(0), at(1), at(2), at(3));
            case "sheet": return x.sheet(at(0), at(1), at(2));
            case "drop": return x.drop(at(0));
            case "item": return x.item(at(0), at(1), at(2), numbers[3]);
            case "copy": return x.copy(at(0), at(1), at(2), at(3), at(4));
            default: throw new IllegalArgumentException(name);
        }
    }

    @Override
    public String toString() {
        return name + Arrays.toString(numbers).replace('[', '(').replace(']', ')');
    }
}
