import java.lang.reflect.Field;
import java.lang.reflect.Method;
import java.lang.reflect.Modifier;
import java.nio.charset.StandardCharsets;
import java.nio.file.Files;
import java.nio.file.Path;
import java.util.ArrayList;
import java.util.List;
import java.util.Set;
import java.util.TreeSet;
import java.util.regex.Matcher;
import java.util.regex.Pattern;

/** The rules of LANGUAGE.md that a scan of the program or its face can tell. Run from the project's folder. */
public final class RuleTests {
    private static final List<String> FACE = List.of(
            "int row(int,int,int)", "int set(int,int,int)", "int copy(int,int,int,int,int)", "int drop(int)",
            "int feed(long,int)", "int plain()", "int fault()", "int day(int)", "int weather(int)",
            "int guard(int,int)", "int undo()", "int village(int,int)", "int ahead(int,int,int)", "int first(int)",
            "int rest(int)", "int most(int)", "int guards(int)", "int drew(int,int)", "int where(int,int,int)",
            "int wed(int,int,int)", "int image(int)", "int restore(int)", "int kind(int)", "int as(int,int)",
            "int ask(int,int)", "int trace(int)", "int count(int)", "int status()");
    private static final int MOST_LINES = 60, MOST_CLASSES = 12, MOST_FIELDS = 20, MOST_PARAMETERS = 7;

    private static int wrong = 0;

    private static void hold(String rule, boolean holds) {
        if (!holds) {
            wrong++;
            System.out.println("broken: " + rule);
        }
    }

    private static List<Class<?>> classes() {
        List<Class<?>> all = new ArrayList<>();
        all.add(NightWells.class);
        all.addAll(List.of(NightWells.class.getDeclaredClasses()));
        return all;
    }

    private static String signature(Method m) {
        StringBuilder text = new StringBuilder(m.getReturnType().getName()).append(' ').append(m.getName()).append('(');
        for (int i = 0; i < m.getParameterCount(); i++) {
            text.append(i == 0 ? "" : ",").append(m.getParameterTypes()[i].getName());
        }
        return text.append(')').toString();
    }

    private static void checkFace() {
        Set<String> open = new TreeSet<>();
        Set<String> names = new TreeSet<>();
        for (Method m : NightWells.class.getDeclaredMethods()) {
            if (!Modifier.isPrivate(m.getModifiers())) {
                open.add(signature(m));
                names.add(m.getName());
                hold("1: " + m.getName() + " is public", Modifier.isPublic(m.getModifiers()));
            }
        }
        hold("1: the face is " + FACE + ", but was " + open, open.equals(new TreeSet<>(FACE)));
        hold("1: one public constructor without parameters", NightWells.class.getConstructors().length == 1
                && NightWells.class.getConstructors()[0].getParameterCount() == 0
                && NightWells.class.getDeclaredConstructors().length == 1);
        int head = NightWells.class.getModifiers();
        hold("1: public and final", Modifier.isPublic(head) && Modifier.isFinal(head));
        for (Class<?> c : classes()) {
            for (Method m : c.getDeclaredMethods()) {
                hold("1: " + c.getName() + "." + m.getName() + " bears a public name",
                        c == NightWells.class && Modifier.isPublic(m.getModifiers()) || !names.contains(m.getName()));
                hold("11: parameters of " + m.getName(), m.getParameterCount() <= MOST_PARAMETERS);
            }
        }
    }

    private static void checkFields() {
        Set<String> open = new TreeSet<>();
        for (Class<?> c : classes()) {
            int own = 0;
            for (Field f : c.getDeclaredFields()) {
                int is = f.getModifiers();
                hold("5: " + f + " is static, not final", !Modifier.isStatic(is) || Modifier.isFinal(is));
                own += Modifier.isStatic(is) ? 0 : 1;
                if (c == NightWells.class && !Modifier.isPrivate(is)) {
                    open.add(f.getName());
                }
            }
            hold("11: fields of " + c.getName(), own <= MOST_FIELDS);
            hold("2: " + c.getName() + " is static", c == NightWells.class || Modifier.isStatic(c.getModifiers()));
            hold("2: " + c.getName() + " has none inside", c == NightWells.class || c.getDeclaredClasses().length == 0);
        }
        hold("1: constants " + open, open.equals(new TreeSet<>(List.of("NONE", "BAD", "STATE", "FULL"))));
        hold("11: classes", classes().size() <= MOST_CLASSES);
    }

    private static String withoutRemarks(String source) {
        return source.replaceAll("(?s)/\\*.*?\\*/", " ").replaceAll("//[^\n]*", " ")
                .replaceAll("\"[^\"\n]*\"", "\"\"").replaceAll("'(\\\\.|[^'])'", "'x'");
    }

    private static void checkWords(String code) {
        String[] forbidden = {"throw", "throws", "try", "catch", "finally", "synchronized", "assert", "import", "package",
            "protected", "var", "yield", "native", "volatile", "transient", "lambda", "Object", "Random", "System\\.(?!arraycopy)",
            "Thread", "Math\\.\\w+Exact", "equals\\(Object", "hashCode", "toString"};
        for (String word : forbidden) {
            hold("6: the program has " + word, !Pattern.compile("\\b" + word + (word.endsWith(")") ? "" : "\\b")).matcher(code).find());
        }
        hold("2: no lambda, no method reference, no rule arrow", !code.contains("->") && !code.contains("::"));
        hold("5: no static initialiser", !Pattern.compile("\\bstatic\\s*\\{").matcher(code).find());
        hold("3: signs 1 to 127 alone", code.chars().allMatch(c -> c >= 1 && c <= 127));
        hold("9: no loop without an end", !Pattern.compile("while\\s*\\(\\s*true|for\\s*\\([^;]*;\\s*;").matcher(code).find());
    }

    private static void checkLengths(String source) {
        Matcher heads = Pattern.compile("(?m)^( {4,8})[^ \n/*][^\n;=]*\\)? \\{$").matcher(source);
        while (heads.find()) {
            if (heads.group().contains("class ") || !heads.group().contains("(")) {
                continue;
            }
            int end = source.indexOf("\n" + heads.group(1) + "}", heads.end());
            int lines = end < 0 ? 0 : source.substring(heads.start(), end).split("\n").length;
            hold("11: " + lines + " lines from" + heads.group(), lines <= MOST_LINES);
        }
    }

    /** Objects are made as an object is made, so that no call adds to the room. */
    private static void checkMaking(String code) {
        String madeIn = "";
        for (String line : code.split("\n")) {
            if (line.matches(" {4,8}(public |private )?(NightWells|Acts)\\(\\) \\{")) {
                madeIn = line.replaceAll("\\S.*", "");
            } else if (line.equals(madeIn + "}")) {
                madeIn = "";
            }
            boolean field = line.matches(" {8}(private )?final .*= new .*");
            hold("12: made by a call: " + line.trim(), !line.contains("new ") || !madeIn.isEmpty() || field);
        }
    }

    public static void main(String[] args) throws Exception {
        String source = Files.readString(Path.of("src/main/java/NightWells.java"), StandardCharsets.ISO_8859_1);
        checkFace();
        checkFields();
        checkWords(withoutRemarks(source));
        checkLengths(source);
        checkMaking(withoutRemarks(source));
        System.out.println(wrong == 0 ? "all rules hold" : wrong + " rules are broken");
        if (wrong != 0) {
            System.exit(1);
        }
    }
}
