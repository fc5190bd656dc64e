import java.io.IOException;
import java.lang.reflect.Constructor;
import java.lang.reflect.Field;
import java.lang.reflect.Method;
import java.lang.reflect.Modifier;
import java.nio.file.Files;
import java.nio.file.Path;
import java.util.Arrays;
import java.util.Set;
import java.util.TreeSet;
import java.util.regex.Matcher;
import java.util.regex.Pattern;

/** The face as the document writes it, no more and no less, and those rules of LANGUAGE.md that a scan can see. */
public final class FaceTests {
    private static final Path DOCUMENT = Path.of("../shared/DOC.md");
    private static final int METHODS = 29, CONSTANTS = 8;
    private static final String[] FORBIDDEN = {
        "throw", "throws", "try", "catch", "finally", "synchronized", "assert", "package", "volatile", "native",
        "protected", "Object", "\\w*Exception", "\\w*Random", "\\w*Thread", "\\w*Exact"};

    private static final String LIBRARY =
            "(Math|Integer|Long)\\.\\w+|System\\.arraycopy|Arrays\\.(copyOf|copyOfRange|fill)|List\\.of";

    private static int wrong = 0;

    public static void main(String[] args) throws IOException, IllegalAccessException {
        String face = face(Files.readString(DOCUMENT));
        constructors();
        constants(toldConstants(face));
        methods(toldMethods(face));
        nestedClasses();
        source(Files.readString(Path.of("src/main/java/PulsedAxes.java")));
        System.out.println(wrong == 0 ? "the face and the language are as told" : wrong + " things are not as told");
        if (wrong != 0) {
            System.exit(1);
        }
    }

    private static void due(String what, Object got, Object want) {
        if (!got.equals(want)) {
            wrong++;
            System.out.println(what + ": " + got + ", due is " + want);
        }
    }

    // ---- what the document tells

    private static String face(String document) {
        String behind = document.substring(document.indexOf("public final class PulsedAxes {"));
        return behind.substring(0, behind.indexOf("```"));
    }

    private static Set<String> toldConstants(String face) {
        Set<String> told = new TreeSet<>();
        Matcher constants = Pattern.compile("([A-Z]+) = (-\\d+)").matcher(face);
        while (constants.find()) {
            told.add(constants.group(1) + "=" + constants.group(2));
        }
        due("constants in the document", told.size(), CONSTANTS);
        return told;
    }

    private static Set<String> toldMethods(String face) {
        Set<String> told = new TreeSet<>();
        Matcher methods = Pattern.compile("public (int \\w+)\\(([^)]*)\\);").matcher(face);
        while (methods.find()) {
            told.add(methods.group(1) + "(" + methods.group(2).replaceAll("(int|long) \\w+", "$1").replace(" ", "") + ")");
        }
        due("methods in the document", told.size(), METHODS);
        return told;
    }

    // ---- what the class has

    private static void constructors() {
        Constructor<?>[] all = PulsedAxes.class.getDeclaredConstructors();
        due("constructors", all.length, 1);
        due("the constructor's parameters", all[0].getParameterCount(), 0);
        due("the constructor is public", Modifier.isPublic(all[0].getModifiers()), true);
        due("the class is public and final", PulsedAxes.class.getModifiers(), Modifier.PUBLIC | Modifier.FINAL);
    }

    private static void constants(Set<String> told) throws IllegalAccessException {
        Set<String> found = new TreeSet<>();
        for (Field field : PulsedAxes.class.getDeclaredFields()) {
            if (!Modifier.isPrivate(field.getModifiers())) {
                due(field.getName() + " is a constant", field.getModifiers(),
                        Modifier.PUBLIC | Modifier.STATIC | Modifier.FINAL);
                due(field.getName() + " is of type", field.getType(), int.class);
                found.add(field.getName() + "=" + field.get(null));
            } else if (Modifier.isStatic(field.getModifiers())) {
                due(field.getName() + " is final", Modifier.isFinal(field.getModifiers()), true);
            }
        }
        due("constants", found, told);
    }

    private static void methods(Set<String> told) {
        Set<String> open = new TreeSet<>();
        Set<String> openNames = new TreeSet<>();
        Set<String> hiddenNames = new TreeSet<>();
        for (Method method : PulsedAxes.class.getDeclaredMethods()) {
            due(method.getName() + " takes at most seven", method.getParameterCount() <= 7, true);
            if (Modifier.isPrivate(method.getModifiers())) {
                hiddenNames.add(method.getName());
                continue;
            }
            due(method.getName() + " is public", method.getModifiers(), Modifier.PUBLIC);
            openNames.add(method.getName());
            open.add(method.getReturnType() + " " + method.getName() + Arrays.toString(method.getParameterTypes())
                    .replace("[", "(").replace("]", ")").replace(" ", ""));
        }
        due("methods", open, told);
        for (Class<?> inside : PulsedAxes.class.getDeclaredClasses()) {
            for (Method method : inside.getDeclaredMethods()) {
                hiddenNames.add(method.getName());
            }
        }
        hiddenNames.retainAll(openNames);
        due("hidden methods with an open name", hiddenNames, Set.of());
    }

    private static void nestedClasses() {
        Class<?>[] inside = PulsedAxes.class.getDeclaredClasses();
        due("at most twelve classes", inside.length <= 12, true);
        for (Class<?> one : inside) {
            due(one.getName() + " is static", Modifier.isStatic(one.getModifiers()), true);
            due(one.getName() + " is not open", one.getModifiers() & (Modifier.PUBLIC | Modifier.PROTECTED), 0);
            due(one.getName() + " has at most some twenty fields", one.getDeclaredFields().length <= 20, true);
        }
    }

    private static void source(String text) {
        String code = text.replaceAll("(?s)/\\*.*?\\*/", " ").replaceAll("//[^\n]*", " ");
        for (String word : FORBIDDEN) {
            due("'" + word + "' in the source", Pattern.compile("\\b" + word + "\\b").matcher(code).find(), false);
        }
        due("lambdas, method references", code.contains("->") || code.contains("::"), false);
        due("annotations", code.contains("@"), false);
        due("signs beyond 127", code.chars().allMatch(sign -> sign < 128), true);
        Matcher imports = Pattern.compile("import\\s+([\\w.]+)").matcher(code);
        while (imports.find()) {
            due(imports.group(1) + " may be used",
                    imports.group(1).matches("java\\.util\\.(Arrays|ArrayList|List|Iterator)"), true);
        }
        Matcher libraries = Pattern.compile("\\b([A-Z]\\w*[a-z]\\w*)\\s*\\.\\s*(\\w+)\\s*\\(").matcher(code);
        while (libraries.find()) {
            String call = libraries.group(1) + "." + libraries.group(2);
            due(call + " may be called", call.matches(LIBRARY), true);
        }
        methodLengths(code);
    }

    /** Methods stay under some sixty lines. */
    private static void methodLengths(String code) {
        String[] lines = code.split("\n");
        int begun = -1;
        String indent = "";
        for (int k = 0; k < lines.length; k++) {
            Matcher head = Pattern.compile("^( {4}| {8})(private|public) .*\\) \\{$").matcher(lines[k]);
            if (head.find()) {
                begun = k;
                indent = head.group(1);
            }
            if (begun >= 0 && lines[k].equals(indent + "}")) {
                due("lines from " + lines[begun].trim(), k - begun < 60, true);
                begun = -1;
            }
        }
    }
}
