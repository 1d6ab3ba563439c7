import java.io.IOException;
import java.lang.reflect.Method;
import java.lang.reflect.Modifier;
import java.nio.charset.StandardCharsets;
import java.nio.file.Files;
import java.nio.file.Path;
import java.util.regex.Matcher;
import java.util.regex.Pattern;

/** The examples of README.md answer what stands behind them there, and every call is named in it. */
public final class ReadmeTest {
    private static final Check CHECK = new Check("ReadmeTest");
    private static final Pattern NEW = Pattern.compile("WellVillages x = new WellVillages\\(\\);");
    private static final Pattern PUT = Pattern.compile("Check\\.put\\(x, \"([^\"]*)\"\\);(?: *//.*)?");
    private static final Pattern CALL = Pattern.compile("x\\.(\\w+)\\((.*?)\\); *// (-?\\d+|true|false)\\b.*");

    public static void main(String[] args) throws ReflectiveOperationException, IOException {
        String page = Files.readString(Path.of("README.md"), StandardCharsets.US_ASCII);
        Matcher blocks = Pattern.compile("(?s)```java\n(.*?)```").matcher(page);
        int found = 0;
        while (blocks.find()) {
            example(blocks.group(1));
            found++;
        }
        CHECK.due("examples", found, 2);
        for (Method m : WellVillages.class.getDeclaredMethods()) {
            if (Modifier.isPublic(m.getModifiers())) {
                CHECK.due("the page names " + m.getName(), page.contains("`" + m.getName() + "`"), true);
            }
        }
        CHECK.end();
    }

    private static void example(String lines) throws ReflectiveOperationException {
        WellVillages x = null;
        for (String line : lines.split("\n")) {
            Matcher put = PUT.matcher(line);
            Matcher call = CALL.matcher(line);
            if (NEW.matcher(line).matches()) {
                x = new WellVillages();
            } else if (put.matches()) {
                Check.put(x, put.group(1));
            } else if (call.matches()) {
                CHECK.due(line, answer(x, call.group(1), call.group(2)).equals(call.group(3)), true);
            } else {
                CHECK.due("a line of an example is understood: " + line, false, true);
            }
        }
    }

    private static String answer(WellVillages x, String name, String arguments) throws ReflectiveOperationException {
        for (Method m : WellVillages.class.getDeclaredMethods()) {
            if (m.getName().equals(name) && Modifier.isPublic(m.getModifiers())) {
                String[] texts = arguments.isEmpty() ? new String[0] : arguments.split(", *");
                Object[] values = new Object[texts.length];
                for (int i = 0; i < texts.length; i++) {
                    values[i] = texts[i].matches("true|false") ? Boolean.valueOf(texts[i]) : (Object) Integer.decode(texts[i]);
                }
                return String.valueOf(m.invoke(x, values));
            }
        }
        return "no such call";
    }
}
