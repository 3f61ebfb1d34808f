import java.lang.reflect.Method;
import java.lang.reflect.Modifier;
import java.nio.file.Files;
import java.nio.file.Path;
import java.util.regex.Matcher;
import java.util.regex.Pattern;

/** What README.md tells of the class is true: the answers behind its calls, and that no call is left out. */
public final class ReadmeTest {
    private static final Check CHECK = new Check("ReadmeTest");
    private static final Pattern CALL = Pattern.compile("x\\.(\\w+)\\(([^)]*)\\);\\s*// (-?\\d+).*");
    private static final Pattern TELL = Pattern.compile("tell\\(x, \"([^\"]*)\"\\);");
    private static final int FEWEST_CALLS = 30;

    public static void main(String[] args) throws Exception {
        String page = Files.readString(Path.of("README.md"));
        CHECK.due("calls with an answer in README.md", askAll(page) >= FEWEST_CALLS ? 1 : 0, 1);
        for (Method call : CrossOrName.class.getDeclaredMethods()) {
            if (Modifier.isPublic(call.getModifiers())) {
                CHECK.due("README.md tells of " + call.getName(), page.contains("`" + call.getName() + "`") ? 1 : 0, 1);
            }
        }
        CHECK.finish();
    }

    private static int askAll(String page) throws Exception {
        CrossOrName x = new CrossOrName();
        int asked = 0;
        for (String line : page.split("\n")) {
            Matcher tell = TELL.matcher(line);
            Matcher call = CALL.matcher(line);
            if (line.startsWith("CrossOrName x = new")) {
                x = new CrossOrName();
            } else if (tell.matches()) {
                Check.feed(x, tell.group(1));
            } else if (call.matches()) {
                CHECK.due(line, ask(x, call.group(1), call.group(2)), Long.parseLong(call.group(3)));
                asked++;
            }
        }
        return asked;
    }

    private static long ask(CrossOrName x, String name, String inner) throws Exception {
        String[] words = inner.isEmpty() ? new String[0] : inner.split(", ");
        for (Method call : CrossOrName.class.getDeclaredMethods()) {
            if (call.getName().equals(name)) {
                Object[] values = new Object[words.length];
                for (int i = 0; i < words.length; i++) {
                    values[i] = Integer.parseInt(words[i]);
                }
                return ((Number) call.invoke(x, values)).longValue();
            }
        }
        throw new IllegalArgumentException("no such call: " + name);
    }
}
