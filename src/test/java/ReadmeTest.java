import java.lang.reflect.Method;
import java.lang.reflect.Modifier;
import java.nio.file.Files;
import java.nio.file.Path;
import java.util.ArrayList;
import java.util.List;
import java.util.regex.Matcher;
import java.util.regex.Pattern;

/**
 * Runs the examples of README.md, line by line on one object: where a comment begins with a number, the call must
 * answer it. Every public method must be told there.
 */
public final class ReadmeTest {
    private static final Pattern ANSWER = Pattern.compile("(-?[0-9]+)(:.*)?");
    private static final int LEAST_CALLS = 60;

    private static int wrong = 0;
    private static int calls = 0;
    private static TurnedFloors x = null;

    public static void main(String[] args) throws Exception {
        List<String> page = Files.readAllLines(Path.of("README.md"));
        boolean inExample = false;
        for (String line : page) {
            if (line.startsWith("```")) {
                inExample = line.equals("```java");
            } else if (inExample && !line.isBlank()) {
                runLine(line.strip());
            }
        }
        everyMethodIsTold(String.join("\n", page));
        everyTestIsTold(String.join("\n", page));
        if (calls < LEAST_CALLS) {
            complain("only " + calls + " calls were found");
        }
        System.out.println(calls + " calls of the README, " + wrong + " wrong");
        if (wrong != 0) {
            System.exit(1);
        }
    }

    private static void complain(String what) {
        wrong++;
        System.out.println(what);
    }

    private static void runLine(String line) throws Exception {
        int comment = line.indexOf("//");
        String call = (comment < 0 ? line : line.substring(0, comment)).strip();
        if (!call.endsWith(";")) {
            complain("no call: " + line);
            return;
        }
        if (call.equals("TurnedFloors x = new TurnedFloors();")) {
            x = new TurnedFloors();
            return;
        }
        if (call.startsWith("tell(x, \"") && call.endsWith("\");")) {
            tell(call.substring("tell(x, \"".length(), call.length() - "\");".length()));
            return;
        }
        long got = answerOf(call.substring(0, call.length() - 1));
        Matcher due = ANSWER.matcher(comment < 0 ? "" : line.substring(comment + 2).strip());
        if (!due.matches()) {
            complain("no answer is told: " + line);
        } else if (got != Long.parseLong(due.group(1))) {
            complain(call + " answered " + got + ", the README tells " + due.group(1));
        }
    }

    private static long answerOf(String call) throws Exception {
        int open = call.indexOf('(');
        if (!call.startsWith("x.") || open < 0 || !call.endsWith(")")) {
            complain("no call: " + call);
            return 0;
        }
        List<Integer> numbers = new ArrayList<>();
        for (String argument : call.substring(open + 1, call.length() - 1).split(",")) {
            if (!argument.isBlank()) {
                numbers.add(argument.strip().equals("TurnedFloors.NONE") ? TurnedFloors.NONE : Integer.decode(argument.strip()));
            }
        }
        Class<?>[] kinds = new Class<?>[numbers.size()];
        java.util.Arrays.fill(kinds, int.class);
        Method method = TurnedFloors.class.getMethod(call.substring(2, open), kinds);
        calls++;
        return ((Number) method.invoke(x, numbers.toArray())).longValue();
    }

    /** The README's helper, word by word. */
    private static void tell(String text) {
        int whole = x.count(6) + text.length();
        for (int from = 0; from < text.length(); from += 20) {
            int[] fours = new int[5];
            for (int i = from; i < text.length() && i < from + 20; i++) {
                fours[(i - from) / 4] |= text.charAt(i) << 24 - (i - from) % 4 * 8;
            }
            x.feed(fours[0], fours[1], fours[2], fours[3], fours[4]);
        }
        x.end(whole);
    }

    private static void everyMethodIsTold(String page) {
        for (Method method : TurnedFloors.class.getDeclaredMethods()) {
            if (Modifier.isPublic(method.getModifiers()) && !page.contains("x." + method.getName() + "(")) {
                complain("the README does not tell " + method.getName());
            }
        }
    }

    private static void everyTestIsTold(String page) throws Exception {
        try (java.util.stream.Stream<Path> tests = Files.list(Path.of("src/test/java"))) {
            for (Path test : tests.sorted().toList()) {
                if (!page.contains("src/test/java/" + test.getFileName())) {
                    complain("the README does not tell " + test);
                }
            }
        }
    }
}
