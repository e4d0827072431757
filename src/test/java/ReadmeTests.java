import java.lang.reflect.Method;
import java.nio.file.Files;
import java.nio.file.Path;
import java.util.regex.Matcher;
import java.util.regex.Pattern;

/** The example of README.md: each call in it must answer what the comment beside it begins with. */
public final class ReadmeTests {
    private static final Pattern CALL = Pattern.compile("(?m)^w\\.(\\w+)\\(([^)]*)\\); +// (-?\\d+)\\b");
    private static int wrong = 0;
    private static int checked = 0;

    public static void main(String[] args) throws Exception {
        String text = Files.readString(Path.of("README.md"));
        WingLooks w = new WingLooks();
        Matcher m = CALL.matcher(text);
        while (m.find()) {
            due(m.group(), Integer.parseInt(m.group(3)), answer(w, m.group(1), m.group(2)));
        }
        long written = text.lines().filter(line -> line.startsWith("w.")).count();
        due("calls in README.md that tell their answer", (int) written, checked);
        for (Method method : WingLooks.class.getMethods()) {
            if (method.getDeclaringClass() == WingLooks.class) {
                due("README.md names " + method.getName(), 1, text.contains("`" + method.getName() + "`") ? 1 : 0);
            }
        }
        System.out.println("ReadmeTests: " + checked + " answers looked at, " + wrong + " not as due");
        if (wrong != 0 || written == 0) {
            System.exit(1);
        }
    }

    private static void due(String what, int want, int got) {
        checked++;
        if (want != got) {
            wrong++;
            System.out.println(what + " answered " + got + ", due is " + want);
        }
    }

    private static int answer(WingLooks w, String name, String list) throws Exception {
        String[] texts = list.split(", ");
        for (Method method : WingLooks.class.getMethods()) {
            if (method.getName().equals(name) && method.getParameterCount() == texts.length) {
                Object[] values = new Object[texts.length];
                for (int i = 0; i < texts.length; i++) {
                    boolean flag = method.getParameterTypes()[i] == boolean.class;
                    values[i] = flag ? (Object) Boolean.valueOf(texts[i]) : (Object) Integer.valueOf(texts[i]);
                }
                return (Integer) method.invoke(w, values);
            }
        }
        throw new IllegalArgumentException("no such call: " + name);
    }
}
