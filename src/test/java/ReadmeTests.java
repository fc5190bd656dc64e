import java.io.IOException;
import java.nio.file.Files;
import java.nio.file.Path;
import java.util.ArrayList;
import java.util.Arrays;
import java.util.LinkedHashSet;
import java.util.List;
import java.util.Set;
import java.util.regex.Matcher;
import java.util.regex.Pattern;

/** What README.md tells is so: the answers in its examples, and its calls with what they refuse with. */
public final class ReadmeTests {
    private static final Pattern CALL = Pattern.compile("axes\\.(\\w+)\\(([-\\d, ]*)\\); +// (-?\\d+|[A-Z]+): .*");
    private static final Pattern TEXT = Pattern.compile("for \\(char letter : \"(.*)\"\\.toCharArray\\(\\)\\) \\{");
    private static final Pattern ROW = Pattern.compile("\\| `(\\w+\\(.*?\\))` \\| .* \\|(.*)\\|");
    private static final Pattern PROMISE = Pattern.compile("`int (\\w+\\(.*?\\))`: (.*)");
    private static final Pattern REFUSAL = Pattern.compile("\\b(BAD|NOT|FULL|NONE|NULL|CAST|INDEX|SIZE)\\b|[Aa] (FAULT|fault)\\b");
    private static final int EXAMPLES = 13;

    private static int wrong = 0;

    public static void main(String[] args) throws IOException, ReflectiveOperationException {
        String readme = Files.readString(Path.of("README.md"));
        examples(readme);
        calls(readme, Files.readString(Path.of("../shared/DOC.md")));
        System.out.println(wrong == 0 ? "README.md tells what is so" : wrong + " things in README.md are not so");
        if (wrong != 0) {
            System.exit(1);
        }
    }

    private static void due(String what, Object got, Object want) {
        if (!got.equals(want)) {
            wrong++;
            System.out.println(what + ": " + got + ", due is " + want);
        }
    }

    /** Each line of an example that tells its answer (or a refusal's name) is called. */
    private static void examples(String readme) throws ReflectiveOperationException {
        PulsedAxes axes = new PulsedAxes();
        int seen = 0;
        for (String line : readme.split("\n")) {
            if (line.equals("PulsedAxes axes = new PulsedAxes();")) {
                axes = new PulsedAxes();
            }
            Matcher text = TEXT.matcher(line);
            if (text.matches()) {
                for (char letter : text.group(1).toCharArray()) {
                    axes.type(letter);
                }
            }
            Matcher call = CALL.matcher(line);
            if (call.matches()) {
                seen++;
                String told = call.group(3);
                long want = Character.isLetter(told.charAt(0))
                        ? PulsedAxes.class.getField(told).getInt(null) : Long.parseLong(told);
                due(line, new Call(call.group(1), numbers(call.group(2))).on(axes), want);
            }
        }
        due("answers in the examples", seen, EXAMPLES);
    }

    private static long[] numbers(String told) {
        return Arrays.stream(told.split(", *")).filter(word -> !word.isEmpty()).mapToLong(Long::parseLong).toArray();
    }

    /** The table has the calls of the document, in its order, with the refusals that it names. */
    private static void calls(String readme, String document) {
        List<String> told = new ArrayList<>();
        Matcher rows = ROW.matcher(readme);
        while (rows.find()) {
            told.add(rows.group(1) + " " + refusals(rows.group(2)));
        }
        List<String> promised = new ArrayList<>();
        Matcher promises = PROMISE.matcher(document);
        while (promises.find()) {
            String call = promises.group(1).replaceAll("(int|long) ", "");
            // what jump refuses is "likewise" with push, in the document
            String text = call.startsWith("jump") ? "BAD; FULL" : promises.group(2);
            promised.add(call + " " + refusals(text));
        }
        due("calls in the document", promised.size(), 29);
        due("the calls and what they refuse with", told, promised);
    }

    /** As the text names them, but BAD ahead of all others. */
    private static Set<String> refusals(String text) {
        Set<String> found = new LinkedHashSet<>();
        if (text.contains("BAD")) {
            found.add("BAD");
        }
        Matcher refusals = REFUSAL.matcher(text);
        while (refusals.find()) {
            found.add(refusals.group().toUpperCase());
        }
        return found;
    }
}
