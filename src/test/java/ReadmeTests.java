import java.lang.reflect.Method;
import java.lang.reflect.Modifier;
import java.nio.charset.StandardCharsets;
import java.nio.file.Files;
import java.nio.file.Path;
import java.util.ArrayList;
import java.util.List;
import java.util.regex.Matcher;
import java.util.regex.Pattern;

/** What README.md shows: its calls, in their order, with the answers behind them. Run from the project's folder. */
public final class ReadmeTests extends Checks {
    private static final Pattern CALL = Pattern.compile("x\\.(\\w+)\\((.*)\\); +// (-?\\d+|[A-Z]+)\\b.*");
    private static final Pattern TEXT = Pattern.compile("feed\\(x, \"(.*)\"\\);");
    private static final Pattern ROW = Pattern.compile("\\| (-\\d+) \\| `([A-Z]+)` \\| .*");

    private static List<String> blocks(String page) {
        List<String> all = new ArrayList<>();
        Matcher block = Pattern.compile("(?s)```java\n(.*?)```").matcher(page);
        while (block.find()) {
            all.add(block.group(1));
        }
        return all;
    }

    private static long constant(String name) throws Exception {
        return NightWells.class.getField(name).getInt(null);
    }

    private static long number(String told) throws Exception {
        if (told.startsWith("'")) {
            return told.charAt(1);
        }
        return Character.isLetter(told.charAt(0)) ? constant(told) : Long.decode(told.replace("L", ""));
    }

    private static int answer(NightWells x, String name, String told) throws Exception {
        String[] numbers = told.isEmpty() ? new String[0] : told.split(", ");
        for (Method m : NightWells.class.getMethods()) {
            if (m.getName().equals(name) && m.getParameterCount() == numbers.length) {
                Object[] arguments = new Object[numbers.length];
                for (int i = 0; i < numbers.length; i++) {
                    long n = number(numbers[i]);
                    arguments[i] = m.getParameterTypes()[i] == long.class ? (Object) n : (Object) (int) n;
                }
                return (int) m.invoke(x, arguments);
            }
        }
        throw new IllegalStateException("README.md shows no call of the class: " + name + "(" + told + ")");
    }

    /** How many calls were shown. */
    private static int play(List<String> blocks) throws Exception {
        int calls = 0;
        NightWells x = null;
        for (String block : blocks) {
            for (String line : block.startsWith("static ") ? new String[0] : block.split("\n")) {
                Matcher call = CALL.matcher(line);
                Matcher text = TEXT.matcher(line);
                if (call.matches()) {
                    due("README.md: " + line, answer(x, call.group(1), call.group(2)), number(call.group(3)));
                    calls++;
                } else if (text.matches()) {
                    feed(x, text.group(1));
                } else {
                    due("README.md: is an object made by <" + line + ">",
                            line.equals("NightWells x = new NightWells();") ? 1 : 0, 1);
                    x = new NightWells();
                }
            }
        }
        return calls;
    }

    /** The loop that feeds a text is the one that the tests use themselves. */
    private static void feedingLoop(List<String> blocks) throws Exception {
        String used = Files.readString(Path.of("src/test/help/Checks.java"), StandardCharsets.US_ASCII).replaceAll("\\s+", " ");
        int loops = 0;
        for (String block : blocks) {
            if (block.startsWith("static ")) {
                loops++;
                due("README.md: the loop stands in Checks", used.contains(block.trim().replaceAll("\\s+", " ")) ? 1 : 0, 1);
            }
        }
        due("README.md: loops that feed a text", loops, 1);
    }

    private static void namedAnswers(String page) throws Exception {
        int named = 0;
        Matcher row = ROW.matcher(page);
        while (row.find()) {
            named++;
            due("README.md: " + row.group(), constant(row.group(2)), Long.parseLong(row.group(1)));
        }
        due("README.md: answers with a name", named, 4);
    }

    private static void callsShown(String page) {
        for (Method m : NightWells.class.getDeclaredMethods()) {
            boolean shown = page.contains("x." + m.getName() + "(");
            due("README.md: shows " + m.getName(), shown || !Modifier.isPublic(m.getModifiers()) ? 1 : 0, 1);
        }
    }

    private static void tests(String page) throws Exception {
        try (var files = Files.list(Path.of("src/test/java"))) {
            for (Path test : (Iterable<Path>) files::iterator) {
                String name = test.getFileName().toString().replace(".java", "");
                due("README.md: tells of " + name, page.contains("`" + name + "`") ? 1 : 0, 1);
            }
        }
    }

    public static void main(String[] args) throws Exception {
        String page = Files.readString(Path.of("README.md"), StandardCharsets.US_ASCII);
        List<String> blocks = blocks(page);
        due("README.md: are there calls enough", play(blocks) > 30 ? 1 : 0, 1);
        feedingLoop(blocks);
        namedAnswers(page);
        callsShown(page);
        tests(page);
        end("README.md tells it as it is");
    }
}
