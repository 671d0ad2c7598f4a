import java.io.File;
import java.nio.file.Files;
import java.nio.file.Path;
import java.util.Arrays;
import java.util.Set;
import java.util.TreeSet;
import java.util.regex.Matcher;
import java.util.regex.Pattern;

/** README.md says how the class and its tests stand: the face, the tests, and what the example answers. */
public final class ReadmeTest {
    private static final Checks checks = new Checks();

    public static void main(String[] args) throws Exception {
        String readme = Files.readString(Path.of("README.md"));
        face(readme, Files.readString(Path.of("../shared/DOC.md")));
        tests(readme);
        example(readme);
        checks.close();
    }

    private static Set<String> allOf(String pattern, String text) {
        Set<String> all = new TreeSet<>();
        Matcher matcher = Pattern.compile(pattern, Pattern.MULTILINE).matcher(text);
        while (matcher.find()) {
            all.add(matcher.group(1));
        }
        return all;
    }

    private static void face(String readme, String document) {
        Set<String> face = allOf("^ +public (.*\\));$", document);
        checks.due("calls of the face", face.size(), 17);
        checks.due("the README has " + face, allOf("^\\| `([^`]*\\))` \\|", readme).equals(face), true);
    }

    private static void tests(String readme) {
        Set<String> files = new TreeSet<>();
        for (String name : new File("src/test/java").list()) {
            if (name.endsWith("Test.java")) {
                files.add(name.substring(0, name.length() - ".java".length()));
            }
        }
        checks.due("the README has " + files, allOf("^\\| `(\\w+Test)` \\|", readme).equals(files), true);
    }

    /** Each line of the example is done here, too, and answers what its comment begins with. */
    private static void example(String readme) throws ReflectiveOperationException {
        Matcher block = Pattern.compile("```java\n(.*?)```", Pattern.DOTALL).matcher(readme);
        checks.due("the README has an example", block.find(), true);
        String[] lines = block.group(1).split("\n");
        GasLedger ledger = new GasLedger();
        for (int k = 1; k < lines.length; k++) {
            String[] parts = lines[k].split(" +// ");
            String answer = answerOf(ledger, parts[0]);
            boolean asSaid = answer.isEmpty() || parts[1].matches(Pattern.quote(answer) + "(:.*)?");
            checks.due(lines[k] + " (it answers " + answer + ")", asSaid, true);
        }
        checks.due("the example calls something", lines.length > 1, true);
    }

    /** Does the call that a line tells; answers nothing if the call does. */
    private static String answerOf(GasLedger ledger, String line) throws ReflectiveOperationException {
        Matcher call = Pattern.compile("ledger\\.(\\w+)\\((.*)\\);").matcher(line);
        checks.due("a call: " + line, call.matches(), true);
        Object[] numbers = Pattern.compile("-?\\d+").matcher(call.group(2)).results()
            .map(number -> Integer.valueOf(number.group())).toArray();
        Class<?>[] types = new Class<?>[numbers.length];
        Arrays.fill(types, int.class);
        Object answer = GasLedger.class.getMethod(call.group(1), types).invoke(ledger, numbers);
        return answer == null ? "" : answer.toString();
    }
}
