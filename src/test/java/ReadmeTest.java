import java.io.IOException;
import java.lang.reflect.Method;
import java.lang.reflect.Modifier;
import java.nio.file.Files;
import java.nio.file.Path;
import java.util.List;
import java.util.Set;
import java.util.TreeSet;
import java.util.regex.Matcher;
import java.util.regex.Pattern;

/** The calls that README.md shows, all on the objects that it makes, answer what it says behind them. */
public final class ReadmeTest {
    private static final Pattern MADE = Pattern.compile("HorizonPeaks x = new HorizonPeaks\\(\\);");
    private static final Pattern TEXT = Pattern.compile("(?:String )?text = \"([^\"]*)\";");
    private static final Pattern CALL = Pattern.compile("x\\.(\\w+)\\(([-\\d, ]*)\\); +// ([-\\w]+)(: .*)?");
    // The loop that tells the text is known by the line inside it.
    private static final String TOLD = "x.type(text.charAt(i));";
    private static final List<String> LOOP = List.of("for (int i = 0; i < text.length(); i++) {", "}");

    private final Answers answers = new Answers();
    private final Set<String> shown = new TreeSet<>();
    private HorizonPeaks x;
    private String text = "";

    public static void main(String[] args) throws IOException, ReflectiveOperationException {
        new ReadmeTest().read(Files.readAllLines(Path.of("README.md")));
    }

    private void read(List<String> lines) throws ReflectiveOperationException {
        boolean code = false;
        for (String line : lines) {
            if (line.startsWith("```")) {
                code = line.equals("```java");
            } else if (code && !line.isBlank()) {
                follow(line.trim());
            }
        }
        for (Method method : HorizonPeaks.class.getDeclaredMethods()) {
            if (Modifier.isPublic(method.getModifiers())) {
                answers.due(method.getName() + "() is shown", shown.contains(method.getName()) ? 1 : 0, 1);
            }
        }
        answers.end();
    }

    private void follow(String line) throws ReflectiveOperationException {
        Matcher textIs = TEXT.matcher(line);
        Matcher call = CALL.matcher(line);
        if (MADE.matcher(line).matches()) {
            x = new HorizonPeaks();
        } else if (textIs.matches()) {
            text = textIs.group(1);
        } else if (line.equals(TOLD)) {
            Answers.type(x, text);
            shown.add("type");
        } else if (call.matches()) {
            shown.add(call.group(1));
            answers.due(line, answer(call.group(1), call.group(2)), numberOf(call.group(3)));
        } else {
            answers.due("a line that can be followed: " + line, LOOP.contains(line) ? 1 : 0, 1);
        }
    }

    private int answer(String name, String row) throws ReflectiveOperationException {
        String[] words = row.isBlank() ? new String[0] : row.split(", ");
        Class<?>[] types = new Class<?>[words.length];
        Object[] numbers = new Object[words.length];
        for (int i = 0; i < words.length; i++) {
            types[i] = int.class;
            numbers[i] = Integer.valueOf(words[i]);
        }
        return (int) HorizonPeaks.class.getMethod(name, types).invoke(x, numbers);
    }

    private static int numberOf(String word) {
        switch (word) {
            case "BAD": return HorizonPeaks.BAD;
            case "STATE": return HorizonPeaks.STATE;
            case "FULL": return HorizonPeaks.FULL;
            case "NONE": return HorizonPeaks.NONE;
            default: return Integer.parseInt(word);
        }
    }
}
