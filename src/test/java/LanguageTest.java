import java.io.IOException;
import java.lang.reflect.Field;
import java.lang.reflect.Method;
import java.lang.reflect.Modifier;
import java.nio.file.Files;
import java.nio.file.Path;
import java.util.ArrayList;
import java.util.Arrays;
import java.util.List;
import java.util.TreeSet;
import java.util.regex.Matcher;
import java.util.regex.Pattern;

/** The rules of LANGUAGE.md that the text and the made classes can be asked for. */
public final class LanguageTest {
    private static final String[] FACE = {"feed", "end", "town", "fault", "has", "letter", "door", "key", "in", "person",
        "go", "open", "shut", "lend", "take", "lay", "snap", "row", "reach", "opens", "errands", "lent", "locked", "can",
        "needs", "cross", "fewest", "order", "trial", "fits", "would", "unsay", "round", "image", "octet", "on", "status"};
    private static final String[] FORBIDDEN = {"\\bthrow\\b", "\\bthrows\\b", "\\btry\\b", "\\bcatch\\b", "\\bsynchronized\\b",
        "\\bassert\\b", "->", "::", "\\bimport\\b", "\\bpackage\\b", "\\bprotected\\b", "\\bwhile \\(true\\)", "\\bnull\\b",
        "\\bString\\[\\]", "\\bObject\\b", "Exact\\(", "System\\.", "\" *\\+", "\\+ *\"", "static \\{"};

    private static final List<String> LIBRARY = List.of("Math.max", "Math.min", "Math.floorDiv", "Math.floorMod",
        "Integer.bitCount");

    private static int wrong;

    private static void rule(boolean kept, String what) {
        if (!kept) {
            wrong++;
            System.out.println("not kept: " + what);
        }
    }

    private static void text() throws IOException {
        String source = Files.readString(Path.of("src/main/java/StackKeys.java"));
        String code = source.replaceAll("(?s)/\\*.*?\\*/", "").replaceAll("//[^\n]*", "");
        for (String pattern : FORBIDDEN) {
            Matcher m = Pattern.compile(pattern).matcher(code);
            rule(!m.find(), "the text has " + pattern);
        }
        rule(source.chars().allMatch(c -> c < 128), "signs below 128 alone");
        methodLengths(source.split("\n"));
        library(code);
        made(code);
    }

    /** Rule 4: of the library's functions only a few are used, all of which the rule lists. */
    private static void library(String code) {
        Matcher m = Pattern.compile("\\b(Math|Integer|Long|Arrays|List|Character|String)\\.(\\w+)").matcher(code);
        while (m.find()) {
            rule(LIBRARY.contains(m.group()), "the library's " + m.group());
        }
    }

    /** Rule 12: rows are made with their object, as fields, so that no call takes any of the room. */
    private static void made(String code) {
        String fieldIndent = "    ";
        for (String line : code.split("\n")) {
            if (line.startsWith("    private static final class ")) {
                fieldIndent = "        ";
            }
            boolean field = line.matches(fieldIndent + "(private )?(final )?[\\w\\[\\]]+ \\w+ = new .*;");
            rule(!line.contains(" new ") || field || line.strip().equals("lexer = new Lexer(tape);"), "made:" + line);
        }
    }

    private static void methodLengths(String[] lines) {
        int start = -1;
        for (int i = 0; i < lines.length; i++) {
            int indent = lines[i].length() - lines[i].stripLeading().length();
            boolean opens = (indent == 4 || indent == 8) && lines[i].endsWith("{") && lines[i].contains("(")
                    && !lines[i].contains(" class ");
            if (opens) {
                start = i;
            } else if (start >= 0 && lines[i].equals(" ".repeat(indent) + "}")
                    && indent == lines[start].length() - lines[start].stripLeading().length()) {
                rule(i - start < 65, "a method of " + (i - start) + " lines at line " + (start + 1));
                start = -1;
            }
        }
    }

    private static void face() {
        List<String> face = Arrays.asList(FACE);
        TreeSet<String> shown = new TreeSet<>();
        for (Method m : StackKeys.class.getDeclaredMethods()) {
            if (Modifier.isPublic(m.getModifiers())) {
                rule(shown.add(m.getName()), "one public " + m.getName());
            } else {
                rule(Modifier.isPrivate(m.getModifiers()), m.getName() + " is private");
            }
        }
        rule(shown.equals(new TreeSet<>(face)), "the public methods are the document's: " + shown);
        for (Field f : StackKeys.class.getDeclaredFields()) {
            rule(f.getName().equals("NONE") || Modifier.isPrivate(f.getModifiers()), "field " + f.getName() + " is private");
        }
        rule(Modifier.isFinal(StackKeys.class.getModifiers()), "the class is final");
        rule(StackKeys.class.getDeclaredConstructors().length == 1, "one constructor");
    }

    private static void classes() {
        List<Class<?>> all = new ArrayList<>(Arrays.asList(StackKeys.class.getDeclaredClasses()));
        rule(all.size() <= 11, "at most twelve classes");
        all.add(StackKeys.class);
        for (Class<?> c : all) {
            rule(c == StackKeys.class || Modifier.isStatic(c.getModifiers()), c.getName() + " is static");
            int fields = 0;
            for (Field f : c.getDeclaredFields()) {
                boolean fixed = Modifier.isStatic(f.getModifiers());
                rule(!fixed || Modifier.isFinal(f.getModifiers()), "static " + f.getName() + " is final");
                fields += fixed ? 0 : 1;
            }
            rule(fields <= 20, c.getName() + " has " + fields + " fields");
            for (Method m : c.getDeclaredMethods()) {
                rule(m.getParameterCount() <= 7, m.getName() + " takes at most seven");
                rule(c == StackKeys.class || !Arrays.asList(FACE).contains(m.getName()), m.getName() + " is a public name");
            }
        }
    }

    public static void main(String[] args) throws IOException {
        text();
        face();
        classes();
        System.out.println(wrong == 0 ? "the rules that can be asked for are kept" : wrong + " rules are not kept");
        if (wrong > 0) {
            System.exit(1);
        }
    }
}
