import java.io.IOException;
import java.nio.file.Files;
import java.nio.file.Path;
import java.util.ArrayList;
import java.util.List;
import java.util.Map;
import java.util.TreeMap;
import java.util.stream.Stream;

/**
 * The document sentence by sentence: each file in src/test/sentences quotes it ("> ..") and tells
 * behind each quote the calls, with their answers, that would be others if it were broken. No word
 * may stand without a quote, but those of "The public face" (FaceTests has it) and "Not promised".
 */
public final class SentenceTests {
    private static final Path SENTENCES = Path.of("src/test/sentences");
    private static final Path DOCUMENT = Path.of("../shared/DOC.md");

    private record Test(String section, List<String> quotes, List<String> lines) {
    }

    public static void main(String[] args) throws IOException {
        List<Test> tests = new ArrayList<>();
        try (Stream<Path> files = Files.list(SENTENCES)) {
            for (Path file : files.sorted().toList()) {
                read(Files.readAllLines(file), tests);
            }
        }
        List<Integer> answers = new ArrayList<>();
        List<String> faults = new ArrayList<>(tests.parallelStream().flatMap(test -> run(test, answers)).toList());
        document(tests, faults);
        faults.forEach(System.out::println);
        int all = answers.stream().mapToInt(Integer::intValue).sum();
        System.out.println(tests.size() + " tests of sentences, " + all + " answers, " + faults.size() + " things wrong");
        if (!faults.isEmpty() || tests.isEmpty()) {
            System.exit(1);
        }
    }

    private static void read(List<String> lines, List<Test> tests) {
        String section = "";
        boolean quoting = false;
        for (String line : lines) {
            String text = line.trim();
            if (text.startsWith("== ")) {
                section = text.substring(3);
                quoting = false;
            } else if (text.startsWith("> ")) {
                if (!quoting) {
                    tests.add(new Test(section, new ArrayList<>(), new ArrayList<>()));
                }
                quoting = true;
                tests.get(tests.size() - 1).quotes.add(text.substring(2));
            } else if (!text.isEmpty() && !text.startsWith("#")) {
                quoting = false;
                tests.get(tests.size() - 1).lines.add(text.replaceAll(" +#.*", ""));
            }
        }
    }

    private static Stream<String> run(Test test, List<Integer> answers) {
        Script script = new Script();
        List<String> faults = new ArrayList<>();
        try {
            script.run(test.lines);
        } catch (RuntimeException thrown) {
            faults.add("threw " + thrown);
        }
        faults.addAll(script.faults());
        synchronized (answers) {
            answers.add(script.answers());
        }
        return faults.stream().map(fault -> test.section + ", \"" + String.join(" .. ", test.quotes) + "\": " + fault);
    }

    // ---- whether each sentence has its test

    private static void document(List<Test> tests, List<String> faults) throws IOException {
        Map<String, String> sections = sections(Files.readString(DOCUMENT));
        Map<String, StringBuilder> left = new TreeMap<>();
        sections.forEach((name, text) -> left.put(name, new StringBuilder(text)));
        for (Test test : tests) {
            for (String quote : test.quotes) {
                String text = sections.getOrDefault(test.section, "");
                int at = text.indexOf(quote);
                if (at < 0) {
                    faults.add("section '" + test.section + "' does not say: " + quote);
                }
                while (at >= 0) {
                    left.get(test.section).replace(at, at + quote.length(), " ".repeat(quote.length()));
                    at = text.indexOf(quote, at + 1);
                }
            }
        }
        left.forEach((name, text) -> {
            if (text.chars().anyMatch(Character::isLetterOrDigit)) {
                faults.add("no test for section '" + name + "': " + text.toString().replaceAll(" +", " "));
            }
        });
    }

    private static Map<String, String> sections(String document) {
        Map<String, String> sections = new TreeMap<>();
        sections.put("What it is", between(document, "## What it is", "## The public face"));
        sections.put("Terms", between(document, "## Terms", "==== 1 "));
        sections.put("1", between(document, "==== 1 ", "==== 2 "));
        sections.put("2", between(document, "==== 2 ", "==== 3 "));
        sections.put("3", between(document, "==== 3 ", "Ahead of the calls"));
        String heads = between(document, "Ahead of the calls", "## Promise 1:");
        sections.put("The interface", heads.replace("Ahead of the calls", ""));
        String promises = document.substring(document.indexOf("## Promise 1:"));
        for (String promise : promises.split("## Not promised")[0].split("## (?=Promise)")) {
            int end = promise.indexOf('\n');
            if (end > 0) {
                sections.put(promise.substring(0, end), plain(promise.substring(end)));
            }
        }
        return sections;
    }

    private static String between(String document, String first, String behind) {
        int at = document.indexOf(first) + first.length();
        return plain(document.substring(at, document.indexOf(behind, at)));
    }

    /** One line, without the document's marks and what stands as code. */
    private static String plain(String text) {
        return text.replace("```text", " ").replace("```", " ").replaceAll("`[^`]*`", " ").replaceAll("\\s+", " ").trim();
    }
}
