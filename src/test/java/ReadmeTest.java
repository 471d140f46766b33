import java.io.IOException;
import java.lang.reflect.Field;
import java.lang.reflect.Method;
import java.lang.reflect.Modifier;
import java.nio.file.Files;
import java.nio.file.Path;
import java.util.ArrayList;
import java.util.Arrays;
import java.util.List;
import java.util.Set;
import java.util.TreeSet;
import java.util.regex.Matcher;
import java.util.regex.Pattern;
import java.util.stream.Collectors;
import java.util.stream.Stream;

/** What README.md tells: its calls are run, its command, constants and tests are looked for. */
public final class ReadmeTest {
    private static final Due due = new Due();

    private static final Pattern MAKES = Pattern.compile("ShortCut x = new ShortCut\\(\\);");
    private static final Pattern CALL = Pattern.compile("x\\.(\\w+)\\(([^()]*)\\);\\s+// ([^:]+): .+");

    /** .ci/run tells which script is under way; by hand it is the one that CI runs. */
    private static final String SCRIPT = System.getProperty("script", ".ci/run");

    public static void main(String[] args) throws Exception {
        List<String> lines = Files.readAllLines(Path.of("README.md"));
        calls(blocks(lines, "java"));
        command(blocks(lines, "sh"));
        constants(lines);
        tests(lines);
        due.end("ReadmeTest");
    }

    /** The lines within all fences of one language, one behind the other. */
    private static List<String> blocks(List<String> lines, String language) {
        List<String> inside = new ArrayList<>();
        String open = null;
        for (String line : lines) {
            if (line.startsWith("```")) {
                open = open == null ? line.substring(3) : null;
            } else if (language.equals(open) && !line.isBlank()) {
                inside.add(line);
            }
        }
        due.is("README: all fences are closed", open == null ? 1 : 0, 1);
        return inside;
    }

    private static void calls(List<String> lines) throws Exception {
        ShortCut x = null;
        int asked = 0;
        for (String line : lines) {
            if (MAKES.matcher(line).matches()) {
                x = new ShortCut();
                continue;
            }
            Matcher m = CALL.matcher(line);
            boolean can = m.matches() && x != null;
            due.is("README: a call with its answer: " + line, can ? 1 : 0, 1);
            if (can) {
                due.is("README: " + line, answer(x, m.group(1), numbers(m.group(2))), number(m.group(3)));
                asked++;
            }
        }
        due.is("README: calls are shown", asked > 0 ? 1 : 0, 1);
        due.is("README: at most 512 of them", asked <= 512 ? 1 : 0, 1);
    }

    private static int answer(ShortCut x, String name, Object[] arguments) throws Exception {
        Class<?>[] ints = new Class<?>[arguments.length];
        Arrays.fill(ints, int.class);
        Method call = ShortCut.class.getMethod(name, ints);
        return (Integer) call.invoke(x, arguments);
    }

    private static Object[] numbers(String list) throws Exception {
        if (list.isBlank()) {
            return new Object[0];
        }
        String[] parts = list.split(",");
        Object[] all = new Object[parts.length];
        for (int i = 0; i < parts.length; i++) {
            all[i] = number(parts[i].trim());
        }
        return all;
    }

    private static int number(String told) throws Exception {
        String constant = "ShortCut.";
        if (told.startsWith(constant)) {
            return ShortCut.class.getField(told.substring(constant.length())).getInt(null);
        }
        return Integer.decode(told);
    }

    private static void command(List<String> lines) throws IOException {
        due.is("README: one command for the tests", lines.size(), 1);
        if (lines.isEmpty()) {
            return;
        }
        Path named = Path.of(lines.get(0).trim());
        boolean is = Files.isRegularFile(named);
        due.is("README: there is " + named, is ? 1 : 0, 1);
        if (is) {
            due.is("README: can be run: " + named, Files.isExecutable(named) ? 1 : 0, 1);
            due.is("README: a shell script: " + named, Files.readString(named).startsWith("#!/bin/sh\n") ? 1 : 0, 1);
            due.is("README: it is the one under way: " + named, Files.isSameFile(named, Path.of(SCRIPT)) ? 1 : 0, 1);
        }
    }

    /** The refusals of the table and NONE below it are all constants that there are. */
    private static void constants(List<String> lines) {
        Set<String> told = new TreeSet<>(Set.of("NONE"));
        Pattern row = Pattern.compile("\\| `([A-Z]+)` \\| .+ \\|");
        for (String line : lines) {
            Matcher m = row.matcher(line);
            if (m.matches()) {
                told.add(m.group(1));
            }
        }
        Set<String> all = Arrays.stream(ShortCut.class.getFields())
            .filter(f -> Modifier.isStatic(f.getModifiers()))
            .map(Field::getName)
            .collect(Collectors.toCollection(TreeSet::new));
        due.is("README: constants " + told + " of " + all, told.equals(all) ? 1 : 0, 1);
    }

    private static void tests(List<String> lines) throws IOException {
        Set<String> told = new TreeSet<>();
        Pattern row = Pattern.compile("\\| (\\w+Test(?:, \\w+Test)*) \\| .+ \\|");
        for (String line : lines) {
            Matcher m = row.matcher(line);
            if (m.matches()) {
                told.addAll(List.of(m.group(1).split(", ")));
            }
        }
        Set<String> all;
        try (Stream<Path> files = Files.list(Path.of("src/test/java"))) {
            all = files.map(f -> f.getFileName().toString())
                .filter(f -> f.endsWith("Test.java"))
                .map(f -> f.substring(0, f.length() - ".java".length()))
                .collect(Collectors.toCollection(TreeSet::new));
        }
        due.is("README: tests " + told + " of " + all, told.equals(all) ? 1 : 0, 1);
    }
}
