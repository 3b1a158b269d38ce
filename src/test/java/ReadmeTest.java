import java.io.IOException;
import java.lang.reflect.Method;
import java.nio.charset.StandardCharsets;
import java.nio.file.Files;
import java.nio.file.Path;
import java.util.regex.Matcher;
import java.util.regex.Pattern;

/** The example of README.md: each of its calls answers the number that README.md tells behind it. */
public final class ReadmeTest {
    private static final Pattern CALL = Pattern.compile("bureau\\.(\\w+)\\((.*)\\);\\s+// (-?\\d+)(\\D.*)?");
    private static final Pattern WRITE = Pattern.compile("write\\(bureau, \"(.*)\"\\);");

    public static void main(String[] args) throws IOException, ReflectiveOperationException {
        MatchBureau bureau = new MatchBureau();
        boolean isCode = false;
        int calls = 0;
        for (String line : Files.readString(Path.of("README.md"), StandardCharsets.UTF_8).split("\n")) {
            String words = line.trim();
            if (words.startsWith("```")) {
                isCode = words.equals("```java");
            } else if (isCode && words.startsWith("write(")) {
                write(bureau, words);
            } else if (isCode && words.startsWith("bureau.")) {
                call(bureau, words);
                calls++;
            }
        }
        Check.due("calls are found", calls > 0 ? 1 : 0, 1);
        Check.finish("ReadmeTest");
    }

    private static void write(MatchBureau bureau, String line) {
        Matcher parts = WRITE.matcher(line);
        boolean isRead = parts.matches();
        Check.due(line + " is read", isRead ? 1 : 0, 1);
        if (isRead) {
            Check.text(bureau, parts.group(1));
        }
    }

    private static void call(MatchBureau bureau, String line) throws ReflectiveOperationException {
        Matcher parts = CALL.matcher(line);
        boolean isRead = parts.matches();
        Check.due(line + " is read", isRead ? 1 : 0, 1);
        if (isRead) {
            Check.due(line, answer(bureau, parts.group(1), parts.group(2)), Integer.parseInt(parts.group(3)));
        }
    }

    private static int answer(MatchBureau bureau, String name, String list) throws ReflectiveOperationException {
        String[] words = list.isEmpty() ? new String[0] : list.split(", ");
        Class<?>[] types = new Class<?>[words.length];
        Object[] values = new Object[words.length];
        for (int i = 0; i < words.length; i++) {
            boolean isFlag = words[i].equals("true") || words[i].equals("false");
            types[i] = isFlag ? boolean.class : int.class;
            values[i] = isFlag ? (Object) Boolean.valueOf(words[i]) : (Object) Integer.valueOf(words[i]);
        }
        Method method = MatchBureau.class.getMethod(name, types);
        return (Integer) method.invoke(bureau, values);
    }
}
