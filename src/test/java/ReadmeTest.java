import java.io.File;
import java.lang.reflect.Method;
import java.nio.file.Files;
import java.nio.file.Path;
import java.util.ArrayList;
import java.util.List;
import java.util.Set;
import java.util.TreeSet;
import java.util.regex.Matcher;
import java.util.regex.Pattern;

/** What README.md says: the answers of its examples, its codes, its commands and its tests. */
public final class ReadmeTest {
    private static final Pattern CALL = Pattern.compile("x\\.(\\w+)\\(([^)]*)\\);(?: +// (-?\\d+)\\b.*)?");
    private static final String NEW_OBJECT = "HeldShelves x = new HeldShelves();";

    public static void main(String[] args) throws Exception {
        String readme = Files.readString(Path.of("README.md"));
        examples(blocks(readme, "java"));
        methods(readme);
        codes(readme);
        commands(blocks(readme, "sh"), Files.readAllLines(Path.of(".ci/run")));
        tests(readme);
        Due.end();
    }

    /** The lines of all blocks of a language. */
    private static List<String> blocks(String readme, String language) {
        List<String> lines = new ArrayList<>();
        Matcher block = Pattern.compile("(?s)```" + language + "\n(.*?)```").matcher(readme);
        while (block.find()) {
            lines.addAll(List.of(block.group(1).split("\n")));
        }
        return lines;
    }

    private static void examples(List<String> lines) throws Exception {
        HeldShelves x = null;
        Set<String> called = new TreeSet<>();
        for (String line : lines) {
            Matcher call = CALL.matcher(line);
            if (line.equals(NEW_OBJECT)) {
                x = new HeldShelves();
            } else if (x != null && call.matches() && call.group(3) != null) {
                Due.is(line, answer(x, call.group(1), call.group(2)), Integer.parseInt(call.group(3)));
                called.add(call.group(1));
            } else {
                Due.isTrue("a call on an object, and its answer: " + line, false);
            }
        }
        Due.isTrue("the examples call the whole face: " + called, called.equals(face()));
    }

    private static int answer(HeldShelves x, String name, String written) throws Exception {
        String[] words = written.isEmpty() ? new String[0] : written.split(", ");
        Class<?>[] types = new Class<?>[words.length];
        Object[] numbers = new Object[words.length];
        for (int i = 0; i < words.length; i++) {
            types[i] = int.class;
            numbers[i] = Integer.valueOf(words[i]);
        }
        return (Integer) HeldShelves.class.getMethod(name, types).invoke(x, numbers);
    }

    private static Set<String> face() {
        Set<String> names = new TreeSet<>();
        for (Method method : HeldShelves.class.getMethods()) {
            if (method.getDeclaringClass() == HeldShelves.class) {
                names.add(method.getName());
            }
        }
        return names;
    }

    private static void methods(String readme) {
        for (String name : face()) {
            Due.isTrue(name + " is told", readme.contains("| `" + name + "("));
        }
    }

    private static void codes(String readme) {
        code(readme, "OUTSIDE", HeldShelves.OUTSIDE);
        code(readme, "FULL", HeldShelves.FULL);
        code(readme, "STATE", HeldShelves.STATE);
        code(readme, "NONE", HeldShelves.NONE);
    }

    private static void code(String readme, String name, int number) {
        Due.isTrue(name + " is told", readme.contains("| `" + name + "` | " + number + " |"));
    }

    private static void commands(List<String> readme, List<String> script) {
        Set<String> told = javaCommands(readme);
        Set<String> run = javaCommands(script);
        Due.isTrue("there are commands", !run.isEmpty());
        Due.isTrue("README.md names " + told + ", .ci/run runs " + run, told.equals(run));
        Due.isTrue("README.md names .ci/run", readme.contains(".ci/run"));
        Due.isTrue(".ci/run can be run", new File(".ci/run").canExecute());
    }

    private static Set<String> javaCommands(List<String> lines) {
        Set<String> commands = new TreeSet<>();
        for (String line : lines) {
            String command = line.strip().replace(" || return 1", "");
            if (command.startsWith("javac ") || command.startsWith("java ")) {
                commands.add(command);
            }
        }
        return commands;
    }

    private static void tests(String readme) {
        for (String file : new File("src/test/java").list()) {
            String name = file.replace(".java", "");
            Due.isTrue(name + " is told", readme.contains("`" + name + "`"));
        }
    }
}
