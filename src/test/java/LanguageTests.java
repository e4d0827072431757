import java.lang.reflect.Field;
import java.lang.reflect.Method;
import java.lang.reflect.Modifier;
import java.nio.file.Files;
import java.nio.file.Path;
import java.util.Arrays;
import java.util.HashSet;
import java.util.List;
import java.util.Set;
import java.util.regex.Matcher;
import java.util.regex.Pattern;

/** The rules of LANGUAGE.md that can be looked at from outside: in the text of the class and in what it declares. */
public final class LanguageTests {
    private static final Path PROGRAM = Path.of("src/main/java/WingLooks.java");
    private static final int MOST_PARAMETERS = 7;
    private static final int MOST_LINES = 60;
    private static final int MOST_CLASSES = 12;
    private static final int MOST_FIELDS = 20;
    /** What the class may take of the library; it needs no more of what the rules list. */
    private static final Set<String> LIBRARY = Set.of("Math.max", "Math.min", "Math.abs", "Integer.bitCount");
    private static final Set<String> FORBIDDEN = Set.of("throw", "throws", "try", "catch", "finally", "synchronized",
        "assert", "import", "package", "native", "volatile", "transient", "strictfp", "protected", "var", "equals",
        "hashCode", "toString", "Object", "Thread", "Runnable");
    private static int wrong = 0;
    private static int checked = 0;

    public static void main(String[] args) throws Exception {
        String code = withoutCommentsAndTexts(Files.readString(PROGRAM));
        words(code);
        library(code);
        signs(code);
        methodLines(code);
        classes();
        members();
        names();
        System.out.println("LanguageTests: " + checked + " looks, " + wrong + " not as due");
        if (wrong != 0) {
            System.exit(1);
        }
    }

    private static void due(String what, boolean holds) {
        checked++;
        if (!holds) {
            wrong++;
            System.out.println(what);
        }
    }

    /** Line ends stay, so that methods keep their lengths. */
    private static String withoutCommentsAndTexts(String code) {
        Matcher m = Pattern.compile("(?s)/\\*.*?\\*/|//[^\n]*|\"(\\\\.|[^\"\\\\])*\"|'(\\\\.|[^'\\\\])+'").matcher(code);
        return m.replaceAll(found -> found.group().replaceAll("[^\n]", " "));
    }

    private static void words(String code) {
        Matcher m = Pattern.compile("[A-Za-z_][A-Za-z_0-9]*").matcher(code);
        while (m.find()) {
            due("rules 1, 4 and 6: the word " + m.group(), !FORBIDDEN.contains(m.group()));
        }
    }

    /** Each name with a great first letter is a class of the file or String, or stands for what the rules list. */
    private static void library(String code) {
        Set<String> own = new HashSet<>();
        Matcher declared = Pattern.compile("\\b(?:class|enum|record|interface)\\s+(\\w+)").matcher(code);
        while (declared.find()) {
            own.add(declared.group(1));
        }
        Matcher m = Pattern.compile("\\b([A-Z]\\w*[a-z]\\w*)\\b(\\s*\\.\\s*\\w+)?").matcher(code);
        while (m.find()) {
            String used = m.group().replaceAll("\\s", "");
            due("rule 4: " + used + " is not listed", own.contains(m.group(1)) || LIBRARY.contains(used));
        }
    }

    private static void signs(String code) {
        for (String sign : List.of("->", "::", "@", "\"", "[][][]")) {
            due("rules 2, 3: the sign " + sign, !code.contains(sign));
        }
        due("rule 5: a static initialiser", !Pattern.compile("\\bstatic\\s*\\{").matcher(code).find());
        due("rule 2: an anonymous class", !Pattern.compile("new\\s+\\w+\\s*\\([^;{]*\\)\\s*\\{").matcher(code).find());
    }

    private static void methodLines(String code) {
        Matcher m = Pattern.compile("(?m)^( +)[\\w\\[\\] ]+\\([^;{}]*\\) \\{$").matcher(code);
        int found = 0;
        while (m.find()) {
            if (Pattern.compile("\\b(if|for|while|switch|else|do)\\b").matcher(m.group()).find()) {
                continue;
            }
            found++;
            int end = code.indexOf("\n" + m.group(1) + "}", m.end());
            long lines = end < 0 ? MOST_LINES + 1 : code.substring(m.start(), end).lines().count() + 1;
            due("rule 11: " + lines + " lines:" + m.group(), lines <= MOST_LINES);
        }
        due("rule 11: methods were found", found > 28);
    }

    private static Class<?>[] inside() {
        return WingLooks.class.getDeclaredClasses();
    }

    private static void classes() {
        due("rule 11: " + inside().length + " classes inside", inside().length + 1 <= MOST_CLASSES);
        due("rule 1: public", Modifier.isPublic(WingLooks.class.getModifiers()));
        due("rule 1: final", Modifier.isFinal(WingLooks.class.getModifiers()));
        for (Class<?> c : inside()) {
            int is = c.getModifiers();
            due("rule 2: " + c + " is static", Modifier.isStatic(is));
            due("rule 1: " + c + " is not of the face", !Modifier.isPublic(is) && !Modifier.isProtected(is));
            due("rule 2: " + c + " has no classes inside", c.getDeclaredClasses().length == 0);
        }
    }

    private static void members() {
        membersOf(WingLooks.class);
        for (Class<?> c : inside()) {
            membersOf(c);
        }
    }

    private static void membersOf(Class<?> c) {
        int fields = 0;
        for (Field f : c.getDeclaredFields()) {
            if (Modifier.isStatic(f.getModifiers())) {
                due("rule 5: " + f + " is final", Modifier.isFinal(f.getModifiers()));
            } else {
                fields++;
            }
            due("rule 3: the type of " + f, isAllowed(f.getType()));
        }
        due("rule 11: " + fields + " fields in " + c, fields <= MOST_FIELDS);
        for (Method m : c.getDeclaredMethods()) {
            due("rule 11: parameters of " + m, m.getParameterCount() <= MOST_PARAMETERS);
            due("rule 3: the type of " + m, m.getReturnType() == void.class || isAllowed(m.getReturnType()));
            for (Class<?> type : m.getParameterTypes()) {
                due("rule 3: a parameter of " + m, isAllowed(type));
            }
        }
    }

    private static boolean isAllowed(Class<?> type) {
        return type.isPrimitive() || type == int[].class || type == boolean[].class
            || Arrays.asList(inside()).contains(type);
    }

    private static void names() {
        Set<String> open = new HashSet<>();
        for (Method m : WingLooks.class.getDeclaredMethods()) {
            if (Modifier.isPublic(m.getModifiers())) {
                open.add(m.getName());
            }
        }
        due("rule 1: the face has 27 calls", open.size() == 27);
        for (Method m : WingLooks.class.getDeclaredMethods()) {
            due("rule 1: the name of " + m, Modifier.isPublic(m.getModifiers()) || !open.contains(m.getName()));
        }
        for (Class<?> c : inside()) {
            for (Method m : c.getDeclaredMethods()) {
                due("rule 1: the name of " + m, !open.contains(m.getName()));
            }
        }
    }
}
