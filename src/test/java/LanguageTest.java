import java.io.IOException;
import java.lang.reflect.Constructor;
import java.lang.reflect.Field;
import java.lang.reflect.Method;
import java.lang.reflect.Modifier;
import java.nio.file.Files;
import java.nio.file.Path;
import java.util.Arrays;
import java.util.List;
import java.util.Set;
import java.util.TreeSet;
import java.util.regex.Matcher;
import java.util.regex.Pattern;

/** The face of the class, and those rules of LANGUAGE.md that can be read off its source. */
public final class LanguageTest {
    private static final Due due = new Due();

    private static final String[] FACE = {
        "bit 4", "told 2", "as 2", "turns 2", "set 3", "rule 2", "deal 1", "seed 1", "walk 2", "latest 1",
        "tried 1", "hush 0", "best 2", "loses 2", "behind 3", "same 2", "look 3", "wanted 2", "reach 2",
        "ever 3", "wrong 1", "fine 0", "feed 3", "trim 1", "text 0", "textTold 2", "why 1", "sheet 3",
        "mark 3", "pour 1", "reads 1", "copy 5", "lay 3", "ask 2", "item 2", "rest 2", "tell 1", "check 3",
        "keep 0", "back 0", "count 1"};

    private static final String[] FORBIDDEN = {
        "throw", "throws", "try", "catch", "synchronized", "assert", "volatile", "native", "transient",
        "Object", "NaN", "Random", "Thread", "Runtime", "reflect", "equals", "hashCode", "toString"};

    /** Of rule 4, what the class may ask of the library by a class's name. */
    private static final Set<String> LIBRARY = Set.of(
        "Math.max", "Math.min", "Math.abs", "Math.floorDiv", "Math.floorMod", "Integer.compare", "Integer.bitCount",
        "Integer.max", "Integer.min", "Long.compare", "Long.bitCount", "Long.max", "Long.min",
        "System.arraycopy", "Arrays.copyOf", "Arrays.copyOfRange", "Arrays.fill", "List.of");

    public static void main(String[] args) throws IOException {
        face();
        document(Files.readString(Path.of("../shared/DOC.md")));
        String source = Files.readString(Path.of("src/main/java/ShortCut.java"));
        String code = source.replaceAll("(?s)/\\*.*?\\*/", "").replaceAll("//[^\n]*", "");
        words(code);
        library(code);
        methods(code);
        inside();
        due.end("LanguageTest");
    }

    private static void face() {
        Set<String> found = new TreeSet<>();
        for (Method m : ShortCut.class.getDeclaredMethods()) {
            if (Modifier.isPublic(m.getModifiers())) {
                found.add(m.getName() + " " + m.getParameterCount());
                due.is("rule 1: " + m.getName() + " answers an int", m.getReturnType() == int.class ? 1 : 0, 1);
                boolean ints = Arrays.stream(m.getParameterTypes()).allMatch(t -> t == int.class);
                due.is("rule 1: " + m.getName() + " takes ints", ints ? 1 : 0, 1);
            } else {
                due.is("rule 1: " + m.getName() + " is private", Modifier.isPrivate(m.getModifiers()) ? 1 : 0, 1);
                due.is("rule 1: no public one's name: " + m.getName(), isOfFace(m.getName()) ? 1 : 0, 0);
            }
        }
        due.is("rule 1: the face", found.equals(new TreeSet<>(List.of(FACE))) ? 1 : 0, 1);
        for (Field f : ShortCut.class.getDeclaredFields()) {
            boolean open = !Modifier.isPrivate(f.getModifiers());
            due.is("rule 1: " + f.getName(), open && !isConstant(f.getName()) ? 1 : 0, 0);
        }
        Constructor<?>[] made = ShortCut.class.getDeclaredConstructors();
        due.is("rule 1: one constructor", made.length, 1);
        due.is("rule 1: final", Modifier.isFinal(ShortCut.class.getModifiers()) ? 1 : 0, 1);
    }

    /** The face once more, as the document writes it out: constants with their values, and each signature. */
    private static void document(String text) {
        int from = text.indexOf("public final class ShortCut {");
        int to = text.indexOf("\n}", from);
        due.is("the document has a face", from >= 0 && to >= 0 ? 1 : 0, 1);
        if (from < 0 || to < 0) {
            return;
        }
        String face = text.substring(from, to);
        Set<String> open = new TreeSet<>();
        Matcher constant = Pattern.compile("([A-Z]+) = (-?\\d+)").matcher(face);
        while (constant.find()) {
            open.add(constant.group(1));
            due.is("face: " + constant.group(1), valueOf(constant.group(1)), Integer.parseInt(constant.group(2)));
        }
        Matcher call = Pattern.compile("public int (\\w+)\\(([^)]*)\\);").matcher(face);
        while (call.find()) {
            int parameters = call.group(2).isEmpty() ? 0 : call.group(2).split(",").length;
            open.add(call.group(1) + " " + parameters);
        }
        Set<String> found = new TreeSet<>();
        Arrays.stream(ShortCut.class.getFields()).forEach(f -> found.add(f.getName()));
        Arrays.stream(ShortCut.class.getDeclaredMethods()).filter(m -> Modifier.isPublic(m.getModifiers()))
            .forEach(m -> found.add(m.getName() + " " + m.getParameterCount()));
        due.is("face: " + found + " as the document's " + open, found.equals(open) ? 1 : 0, 1);
    }

    private static long valueOf(String constant) {
        for (Field f : ShortCut.class.getFields()) {
            if (f.getName().equals(constant) && f.getType() == int.class && Modifier.isStatic(f.getModifiers())) {
                try {
                    return f.getInt(null);
                } catch (IllegalAccessException e) {
                    return Long.MIN_VALUE;
                }
            }
        }
        return Long.MIN_VALUE;
    }

    private static boolean isOfFace(String name) {
        return Arrays.stream(FACE).anyMatch(f -> f.startsWith(name + " "));
    }

    private static boolean isConstant(String name) {
        return List.of("BAD", "NO", "FULL", "NONE", "NOTHING", "KIND", "INDEX", "SIZE").contains(name);
    }

    private static void words(String code) {
        for (String word : FORBIDDEN) {
            boolean has = Pattern.compile("\\b" + word + "\\b").matcher(code).find();
            due.is("rules 3 to 6: " + word, has ? 1 : 0, 0);
        }
        due.is("rule 2: no lambda or method reference", code.contains("->") || code.contains("::") ? 1 : 0, 0);
        due.is("one import", code.split("\\bimport\\b", -1).length - 1, 1);
        due.is("no package", Pattern.compile("\\bpackage\\b").matcher(code).find() ? 1 : 0, 0);
        boolean ascii = code.chars().allMatch(c -> c == '\n' || c >= 32 && c < 127);
        due.is("rule 4: plain signs", ascii ? 1 : 0, 1);
    }

    private static void library(String code) {
        Matcher m = Pattern.compile("\\b([A-Z]\\w*[a-z]\\w*\\.\\w+)\\(").matcher(code);
        while (m.find()) {
            due.is("rule 4: " + m.group(1), LIBRARY.contains(m.group(1)) ? 1 : 0, 1);
        }
        Matcher brought = Pattern.compile("\\bimport ([^;]+);").matcher(code);
        while (brought.find()) {
            boolean may = List.of("java.util.Arrays", "java.util.ArrayList", "java.util.List", "java.util.Iterator")
                .contains(brought.group(1));
            due.is("rule 4: import " + brought.group(1), may ? 1 : 0, 1);
        }
        due.is("rule 4: nothing by its long name", code.replaceAll("import [^;]+;", "").contains("java.") ? 1 : 0, 0);
    }

    /** Lengths and parameters, by the one form in which methods are written here. */
    private static void methods(String code) {
        String[] lines = code.split("\n");
        Pattern head = Pattern.compile("^( +)(?:\\w+(?:\\[\\])? )+\\w+\\(([^)]*)\\) \\{$");
        for (int i = 0; i < lines.length; i++) {
            Matcher m = head.matcher(lines[i]);
            if (m.find()) {
                int end = i;
                while (end < lines.length && !lines[end].equals(m.group(1) + "}")) {
                    end++;
                }
                due.is("rule 11: lines of " + lines[i].trim(), end - i < 60 ? 1 : 0, 1);
                int parameters = m.group(2).isEmpty() ? 0 : m.group(2).split(",").length;
                due.is("rule 11: parameters of " + lines[i].trim(), parameters <= 7 ? 1 : 0, 1);
            }
        }
    }

    private static void inside() {
        Class<?>[] all = ShortCut.class.getDeclaredClasses();
        due.is("rule 11: classes", all.length <= 11 ? 1 : 0, 1);
        for (Class<?> c : all) {
            due.is("rule 2: static " + c, Modifier.isStatic(c.getModifiers()) ? 1 : 0, 1);
            long fields = Arrays.stream(c.getDeclaredFields()).filter(f -> !Modifier.isStatic(f.getModifiers())).count();
            due.is("rule 11: fields of " + c, fields <= 20 ? 1 : 0, 1);
            for (Method m : c.getDeclaredMethods()) {
                due.is("rule 1: no public one's name: " + m.getName(), isOfFace(m.getName()) ? 1 : 0, 0);
            }
        }
        for (Field f : ShortCut.class.getDeclaredFields()) {
            boolean isStatic = Modifier.isStatic(f.getModifiers());
            due.is("rule 5: " + f, isStatic && !Modifier.isFinal(f.getModifiers()) ? 1 : 0, 0);
        }
    }
}
