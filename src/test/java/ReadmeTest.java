import java.io.IOException;
import java.lang.reflect.Method;
import java.lang.reflect.Modifier;
import java.nio.file.Files;
import java.nio.file.Path;
import java.util.Set;
import java.util.TreeSet;
import java.util.regex.Matcher;
import java.util.regex.Pattern;

/** The calls that README.md tells, one after the other on one tower, answer what stands behind them. */
public final class ReadmeTest {
    private static final Pattern CALL = Pattern.compile("(tower|new Claimtower\\(\\))\\.(\\w+)\\((.*?)\\);\\s+// (\"[^\"]*\"|\\S+).*");

    private ReadmeTest() {
    }

    public static void main(String[] args) throws IOException {
        String readme = Files.readString(Path.of("README.md"));
        Claimtower tower = new Claimtower();
        Set<String> called = new TreeSet<>();
        for (String line : readme.split("\n")) {
            Matcher m = CALL.matcher(line);
            if (m.matches()) {
                called.add(m.group(2));
                Claimtower of = m.group(1).equals("tower") ? tower : new Claimtower();
                Object got = Calls.answer(of, m.group(2), arguments(m.group(3)));
                Calls.check("README.md: " + line, got instanceof String && !got.toString().startsWith("throws.") ? "\"" + got + "\"" : got.toString(), m.group(4));
            } else {
                Calls.check("README.md: a call that is not understood: " + line, line.startsWith("tower."), false);
            }
        }
        Set<String> face = new TreeSet<>();
        for (Method method : Claimtower.class.getDeclaredMethods()) {
            if (!Modifier.isPrivate(method.getModifiers())) {
                face.add(method.getName());
            }
        }
        Calls.check("the methods that README.md calls", called, face);
        Calls.check("README.md names the command that runs the tests", readme.contains("\n.ci/run\n"), true);
        Calls.end("readme");
    }

    private static Object[] arguments(String text) {
        String[] words = text.isEmpty() ? new String[0] : text.split(", ");
        Object[] arguments = new Object[words.length];
        for (int i = 0; i < words.length; i++) {
            boolean isNumber = words[i].matches("-?\\d+");
            arguments[i] = isNumber ? (Object) Integer.valueOf(words[i]) : Boolean.valueOf(words[i]);
        }
        return arguments;
    }
}
