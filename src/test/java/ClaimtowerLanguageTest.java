import java.io.IOException;
import java.lang.reflect.Field;
import java.lang.reflect.Method;
import java.lang.reflect.Modifier;
import java.nio.file.Files;
import java.nio.file.Path;
import java.util.ArrayList;
import java.util.Arrays;
import java.util.List;
import java.util.Set;
import java.util.TreeSet;
import java.util.regex.Matcher;
import java.util.regex.Pattern;

/** What of ../shared/LANGUAGE.md and of the document's face can be seen from the text and the compiled classes. */
public final class ClaimtowerLanguageTest {
    private static final String[] NEVER = {
        "\\bimport\\b", "\\bpackage\\b", "->", "::", "\\bfinally\\b", "\\btry\\b", "\\bcatch\\b", "\\bsynchronized\\b", "\\bassert\\b",
        "\\bvar\\b", "\"\\s*\\+", "\\+\\s*\"", "\\bSystem\\.(?!arraycopy)", "\\bMath\\.\\w+Exact\\b", "\\bRandom\\b", "\\bThread\\b",
        "\\bstatic\\s*\\{", "\\bprotected\\b", "\\bdouble\\b", "\\bfloat\\b", "\\bString\\.", "\\bhashCode\\b", "\\bequals\\b"};

    private ClaimtowerLanguageTest() {
    }

    public static void main(String[] args) throws IOException {
        String source = Files.readString(Path.of("src/main/java/Claimtower.java"));
        String code = source.replaceAll("(?s)/\\*.*?\\*/", "").replaceAll("//[^\n]*", "");
        for (String never : NEVER) {
            Calls.check("rule: " + never + " stands in the class", Pattern.compile(never).matcher(code).find(), false);
        }
        checkThrows(code);
        checkLengths(source);
        checkFace(Files.readString(Path.of("../shared/DOC.md")));
        checkClasses();
        Calls.end("language");
    }

    private static void checkThrows(String code) {
        Matcher m = Pattern.compile("throw\\s+new\\s+(\\w+)\\(").matcher(code);
        Set<String> thrown = new TreeSet<>();
        while (m.find()) {
            thrown.add(m.group(1));
        }
        Calls.check("what is thrown", thrown.toString(), "[IllegalArgumentException, IllegalStateException, IndexOutOfBoundsException]");
    }

    private static void checkLengths(String source) {
        String[] lines = source.split("\n");
        int start = -1;
        String indent = "";
        for (int i = 0; i < lines.length; i++) {
            Calls.check("line " + (i + 1) + " is too long", lines[i].length() > 120, false);
            Calls.check("line " + (i + 1) + " has another sign", lines[i].chars().anyMatch(c -> c < 32 || c > 126), false);
            Matcher m = Pattern.compile("^(    |        )(?=\\w)[\\w\\[\\]<> ]+\\(.*").matcher(lines[i]);
            if (start < 0 && m.matches() && !lines[i].endsWith(";")) {
                start = i;
                indent = m.group(1);
            }
            if (start >= 0 && lines[i].equals(indent + "}")) {
                Calls.check("the method at line " + (start + 1) + " is too long", i - start > 60, false);
                start = -1;
            }
        }
    }

    private static void checkFace(String document) {
        String block = document.substring(document.indexOf("public final class Claimtower {"));
        block = block.substring(0, block.indexOf("\n}"));
        Set<String> due = new TreeSet<>();
        Matcher m = Pattern.compile("public (\\w+) (\\w+)\\((.*?)\\)(?: throws (.*?))?;").matcher(block);
        while (m.find()) {
            String types = m.group(3).replaceAll("(\\w+) \\w+", "$1").replace(" ", "");
            due.add(m.group(1) + " " + m.group(2) + "(" + types + ")" + (m.group(4) == null ? "" : m.group(4).replace(" ", "")));
        }
        Set<String> got = new TreeSet<>();
        for (Method method : Claimtower.class.getDeclaredMethods()) {
            if (!Modifier.isPrivate(method.getModifiers())) {
                got.add(method.getReturnType().getSimpleName() + " " + method.getName() + "(" + named(method.getParameterTypes()) + ")"
                    + named(method.getExceptionTypes()));
            }
        }
        Calls.check("the face", got, due);
        Calls.check("methods of the face", due.size(), 42);
        Calls.check("constructors", Claimtower.class.getConstructors().length, 1);
        Calls.check("fields that can be seen", Arrays.stream(Claimtower.class.getDeclaredFields()).allMatch(f -> Modifier.isPrivate(f.getModifiers())), true);
    }

    private static String named(Class<?>[] types) {
        List<String> names = new ArrayList<>();
        for (Class<?> type : types) {
            names.add(type.getSimpleName());
        }
        return String.join(",", names);
    }

    private static void checkClasses() {
        List<Class<?>> classes = new ArrayList<>(List.of(Claimtower.class));
        classes.addAll(List.of(Claimtower.class.getDeclaredClasses()));
        Calls.check("too many classes", classes.size() > 12, false);
        Set<String> face = new TreeSet<>();
        for (Method method : Claimtower.class.getMethods()) {
            face.add(method.getName());
        }
        for (Class<?> each : classes) {
            int fields = 0;
            for (Field field : each.getDeclaredFields()) {
                fields += Modifier.isStatic(field.getModifiers()) ? 0 : 1;
                boolean isFinal = Modifier.isFinal(field.getModifiers());
                Calls.check(field + " is static, but not final", Modifier.isStatic(field.getModifiers()) && !isFinal, false);
            }
            Calls.check(each + " has too many fields", fields > 20, false);
            Calls.check(each + " is an inner one", each != Claimtower.class && !Modifier.isStatic(each.getModifiers()), false);
            for (Method method : each.getDeclaredMethods()) {
                boolean isNamedAlike = Modifier.isPrivate(method.getModifiers()) && face.contains(method.getName());
                Calls.check(method + " bears the name of a public one", isNamedAlike, false);
                Calls.check(method + " takes too much", method.getParameterCount() > 7, false);
            }
        }
    }
}
