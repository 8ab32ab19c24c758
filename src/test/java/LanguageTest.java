import java.io.IOException;
import java.lang.reflect.Constructor;
import java.lang.reflect.Field;
import java.lang.reflect.Method;
import java.lang.reflect.Modifier;
import java.nio.file.Files;
import java.nio.file.Path;
import java.util.ArrayList;
import java.util.List;
import java.util.TreeSet;
import java.util.regex.Matcher;
import java.util.regex.Pattern;

/** The public face of the document, and those rules of LANGUAGE.md that can be seen in the source or the class. */
public final class LanguageTest {
    private static final String FACE = "floor(int,int) at(int,int) asks(int,int) terms(int,int) feed(int,int,int,int,int) "
        + "end(int) row() bricks() law() orders() fault() stopped() force(int) turn(int) right(int) swap(int) pass() undo() "
        + "fewest(int) many() cheapest() worst(int) reach() gaps() comes(int) view(int) stays(int) seen(int,int) forget() "
        + "was() look(int) few(int,int) compare(int) years(int,int) drawn(int,int) image(int) back(int) count(int) status()";
    private static final String SOURCE = "src/main/java/TurnedFloors.java";
    private static int wrong = 0;

    public static void main(String[] args) throws IOException {
        face();
        for (Class<?> c : allClasses()) {
            shape(c);
        }
        words(bare(Files.readString(Path.of(SOURCE))));
        methods(bare(Files.readString(Path.of(SOURCE))));
        System.out.println(wrong == 0 ? "the language is kept" : wrong + " rules are broken");
        if (wrong != 0) {
            System.exit(1);
        }
    }

    private static void fail(String what) {
        wrong++;
        System.out.println(what);
    }

    private static List<Class<?>> allClasses() {
        List<Class<?>> all = new ArrayList<>(List.of(TurnedFloors.class));
        all.addAll(List.of(TurnedFloors.class.getDeclaredClasses()));
        if (all.size() > 12) {
            fail("rule 11: " + all.size() + " classes");
        }
        return all;
    }

    private static String signature(Method m) {
        List<String> types = new ArrayList<>();
        for (Class<?> t : m.getParameterTypes()) {
            types.add(t.getName());
        }
        return m.getName() + "(" + String.join(",", types) + ")";
    }

    private static void face() {
        TreeSet<String> wanted = new TreeSet<>(List.of(FACE.split(" ")));
        TreeSet<String> found = new TreeSet<>();
        for (Method m : TurnedFloors.class.getDeclaredMethods()) {
            if (!Modifier.isPrivate(m.getModifiers())) {
                found.add(signature(m));
                Class<?> due = m.getName().equals("few") ? long.class : int.class;
                if (m.getReturnType() != due || !Modifier.isPublic(m.getModifiers()) || Modifier.isStatic(m.getModifiers())) {
                    fail("rule 1: " + m);
                }
            }
        }
        if (!found.equals(wanted)) {
            fail("rule 1: the face is " + found);
        }
        for (Field f : TurnedFloors.class.getDeclaredFields()) {
            if (!Modifier.isPrivate(f.getModifiers()) && !f.getName().equals("NONE")) {
                fail("rule 1: " + f);
            }
        }
        Constructor<?>[] constructors = TurnedFloors.class.getDeclaredConstructors();
        if (constructors.length != 1 || !Modifier.isPublic(constructors[0].getModifiers())) {
            fail("rule 1: the constructor");
        }
        int modifiers = TurnedFloors.class.getModifiers();
        if (!Modifier.isFinal(modifiers) || !Modifier.isPublic(modifiers) || TurnedFloors.NONE != -1) {
            fail("rule 1: the class");
        }
    }

    private static void shape(Class<?> c) {
        int fields = 0;
        for (Field f : c.getDeclaredFields()) {
            boolean isStatic = Modifier.isStatic(f.getModifiers());
            fields += isStatic ? 0 : 1;
            if (isStatic && !Modifier.isFinal(f.getModifiers())) {
                fail("rule 5: " + f);
            }
        }
        if (fields > 20) {
            fail("rule 11: " + fields + " fields in " + c);
        }
        if (c != TurnedFloors.class && !Modifier.isStatic(c.getModifiers())) {
            fail("rule 2: " + c);
        }
        if (c.getDeclaredClasses().length > 0 && c != TurnedFloors.class) {
            fail("rule 2: classes inside " + c);
        }
        for (Method m : c.getDeclaredMethods()) {
            if (m.getParameterCount() > 7) {
                fail("rule 11: " + m);
            }
            boolean isFace = c == TurnedFloors.class && Modifier.isPublic(m.getModifiers());
            if (!isFace && (" " + FACE).contains(" " + m.getName() + "(")) {
                fail("rule 1: bears the name of a public one: " + m);
            }
        }
    }

    /** The source without comments and without what stands in texts. */
    private static String bare(String source) {
        String s = source.replaceAll("(?s)/\\*.*?\\*/", "").replaceAll("//[^\n]*", "");
        return s.replaceAll("\"[^\"\n]*\"", "\"\"").replaceAll("'[^'\n]+'", "' '");
    }

    private static void words(String s) {
        for (String word : List.of("throw", "throws", "try", "catch", "finally", "synchronized", "assert", "package", "var",
            "interface", "native", "volatile", "transient", "yield", "sealed", "Object", "Random", "Thread", "File", "Scanner",
            "HashMap", "Map", "Set", "double", "float", "Exception")) {
            if (Pattern.compile("\\b" + word + "\\b").matcher(s).find()) {
                fail("the word " + word);
            }
        }
        for (String sign : List.of("->", "::", "Exact", "while (true)", "for (;;)", "[][]", "@", "String[]", ".class")) {
            if (s.contains(sign)) {
                fail("the sign " + sign);
            }
        }
        Matcher library = Pattern.compile("\\b(System|Arrays|Math|Integer|Long|String)\\.(\\w+)").matcher(s);
        List<String> allowed = List.of("System.arraycopy", "Arrays.fill", "Arrays.copyOf", "Math.min", "Math.max", "Math.abs",
            "Integer.bitCount");
        while (library.find()) {
            if (!allowed.contains(library.group())) {
                fail("rule 4: " + library.group());
            }
        }
        Matcher imports = Pattern.compile("import ([^;]+);").matcher(s);
        while (imports.find()) {
            if (!imports.group(1).equals("java.util.Arrays")) {
                fail("rule 4: " + imports.group());
            }
        }
    }

    /** Methods stay short: counted from a line that opens one to the brace at the same depth that closes it. */
    private static void methods(String s) {
        String[] lines = s.split("\n");
        for (int i = 0; i < lines.length; i++) {
            Matcher opens = Pattern.compile("^( {4}| {8})[A-Za-z].*\\) \\{$").matcher(lines[i]);
            if (opens.find()) {
                int j = i;
                while (j < lines.length && !lines[j].equals(opens.group(1) + "}")) {
                    j++;
                }
                if (j - i > 60) {
                    fail("rule 11: " + (j - i) + " lines: " + lines[i].trim());
                }
            }
        }
    }
}
