import java.io.IOException;
import java.lang.reflect.Method;
import java.lang.reflect.Modifier;
import java.nio.charset.StandardCharsets;
import java.nio.file.Files;
import java.nio.file.Path;
import java.util.Arrays;
import java.util.Map;
import java.util.Set;
import java.util.TreeMap;
import java.util.TreeSet;
import java.util.regex.Matcher;
import java.util.regex.Pattern;
import java.util.stream.Collectors;
import java.util.stream.Stream;

/** README.md: its example prints what stands there, and its table has every method with what it throws. */
public final class ReadmeTest {
    private static final Map<String, Class<? extends RuntimeException>> WORDS = Map.of(
            "Bad", Check.BAD, "LOST", Check.LOST, "missing", Check.MISSING, "FORBIDDEN", Check.FORBIDDEN,
            "WRONG GUESS", Check.WRONG_GUESS, "LOCKED", Check.LOCKED, "CHANGED", Check.CHANGED,
            "TAMPERED", Check.TAMPERED, "no room", Check.NO_ROOM);
    private static final Pattern METHOD_ROW = Pattern.compile("(?m)^\\| `(\\w+ \\w+)\\((.*?)\\)` \\|.*\\|(.*?)\\|$");
    private static final Pattern WORD_ROW = Pattern.compile("(?m)^\\| ([A-Za-z ]+) \\| `([A-Za-z.]+)` \\|");

    private ReadmeTest() {
    }

    public static void main(String[] args) throws IOException, InterruptedException {
        String readme = Files.readString(Path.of("README.md"));
        Check.says("README.md", "and prints");
        Check.is("the example", printedBy(block(readme, "java")), block(readme, "text"));

        Check.says("README.md", "What each method takes, answers and throws");
        Check.is("the methods", methodsTold(readme), methodsOfTheFace());
        Check.is("the words", wordsTold(readme), wordsDue());
        Check.end();
    }

    private static String block(String readme, String kind) {
        Matcher found = Pattern.compile("(?ms)^```" + kind + "\n(.*?)^```$").matcher(readme);
        return found.find() ? found.group(1) : "no block of " + kind;
    }

    /** Runs the program as README.md says, but with the class path of this test. */
    private static String printedBy(String program) throws IOException, InterruptedException {
        Path file = Files.createTempFile("Example", ".java");
        try {
            Files.writeString(file, program);
            Process run = new ProcessBuilder(Path.of(System.getProperty("java.home"), "bin", "java").toString(), "-cp",
                    System.getProperty("java.class.path"), file.toString()).redirectErrorStream(true).start();
            String printed = new String(run.getInputStream().readAllBytes(), StandardCharsets.UTF_8);
            int code = run.waitFor();
            return code == 0 ? printed : printed + "exit code " + code;
        } finally {
            Files.delete(file);
        }
    }

    private static Map<String, Set<String>> methodsTold(String readme) {
        Map<String, Set<String>> told = new TreeMap<>();
        Matcher row = METHOD_ROW.matcher(readme);
        while (row.find()) {
            String types = parts(row.group(2)).map(parameter -> parameter.split(" ")[0])
                    .collect(Collectors.joining(", "));
            told.put(row.group(1) + "(" + types + ")", parts(row.group(3)).map(ReadmeTest::exceptionOf)
                    .collect(Collectors.toCollection(TreeSet::new)));
        }
        return told;
    }

    private static Map<String, Set<String>> methodsOfTheFace() {
        Map<String, Set<String>> face = new TreeMap<>();
        for (Method method : TrustModule.class.getDeclaredMethods()) {
            if (Modifier.isPublic(method.getModifiers())) {
                String types = Arrays.stream(method.getParameterTypes()).map(Class::getName)
                        .collect(Collectors.joining(", "));
                face.put(method.getReturnType() + " " + method.getName() + "(" + types + ")",
                        Arrays.stream(method.getExceptionTypes()).map(Class::getSimpleName)
                                .collect(Collectors.toCollection(TreeSet::new)));
            }
        }
        return face;
    }

    private static Map<String, String> wordsTold(String readme) {
        Map<String, String> told = new TreeMap<>();
        Matcher row = WORD_ROW.matcher(readme);
        while (row.find()) {
            told.put(row.group(1), row.group(2).substring(row.group(2).lastIndexOf('.') + 1));
        }
        return told;
    }

    private static Map<String, String> wordsDue() {
        Map<String, String> due = new TreeMap<>();
        WORDS.forEach((word, exception) -> due.put(word, exception.getSimpleName()));
        return due;
    }

    private static Stream<String> parts(String list) {
        return Arrays.stream(list.split(",")).map(String::trim).filter(part -> !part.isEmpty());
    }

    private static String exceptionOf(String word) {
        return WORDS.containsKey(word) ? WORDS.get(word).getSimpleName() : "no exception for " + word;
    }
}
