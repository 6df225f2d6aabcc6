import java.lang.reflect.Method;
import java.nio.charset.StandardCharsets;
import java.nio.file.Files;
import java.nio.file.Path;
import java.util.regex.Matcher;
import java.util.regex.Pattern;

/** What README.md says that calls answer: its text is fed, then each of its calls is made, one after the other. */
public final class ReadmeTest {
    private static final Pattern CALL = Pattern.compile("x\\.(\\w+)\\(([^)]*)\\);\\s+// (-?\\d+):");
    private static final int LEAST_CALLS = 15;

    public static void main(String[] args) throws Exception {
        String readme = Files.readString(Path.of("README.md"));
        UnseenClock x = new UnseenClock();
        feed(x, textOf(readme));
        int made = 0;
        int wrong = 0;
        Matcher call = CALL.matcher(readme);
        while (call.find()) {
            int got = answer(x, call.group(1), call.group(2));
            made++;
            if (got != Integer.parseInt(call.group(3))) {
                wrong++;
                System.out.println(call.group(1) + "(" + call.group(2) + ") answered " + got + ", README.md says " + call.group(3));
            }
        }
        if (made < LEAST_CALLS) {
            wrong++;
            System.out.println("just " + made + " calls were found in README.md");
        }
        System.out.println(wrong == 0 ? made + " calls answer as README.md says" : wrong + " answers are not as README.md says");
        if (wrong != 0) {
            System.exit(1);
        }
    }

    private static String textOf(String readme) {
        String block = readme.substring(readme.indexOf("String text ="), readme.indexOf("byte[] t"));
        StringBuilder text = new StringBuilder();
        Matcher part = Pattern.compile("\"([^\"]*)\"").matcher(block);
        while (part.find()) {
            text.append(part.group(1));
        }
        return text.toString();
    }

    private static void feed(UnseenClock x, String text) {
        byte[] t = text.getBytes(StandardCharsets.ISO_8859_1);
        for (int i = 0; i < t.length; i += 20) {
            int[] v = new int[5];
            for (int j = 0; j < 20 && i + j < t.length; j++) {
                v[j / 4] |= t[i + j] << 24 - 8 * (j % 4);
            }
            x.feed(v[0], v[1], v[2], v[3], v[4]);
        }
        x.end(t.length);
    }

    private static int answer(UnseenClock x, String name, String told) throws Exception {
        String[] parts = told.isBlank() ? new String[0] : told.split(",\\s*");
        for (Method m : UnseenClock.class.getMethods()) {
            if (m.getName().equals(name) && m.getParameterCount() == parts.length) {
                Object[] values = new Object[parts.length];
                for (int i = 0; i < parts.length; i++) {
                    values[i] = m.getParameterTypes()[i] == boolean.class ? (Object) Boolean.valueOf(parts[i]) : Integer.valueOf(parts[i]);
                }
                return (Integer) m.invoke(x, values);
            }
        }
        throw new IllegalStateException("no such method: " + name);
    }
}
