import java.io.IOException;
import java.io.UncheckedIOException;
import java.lang.reflect.InvocationTargetException;
import java.lang.reflect.Method;
import java.lang.reflect.Modifier;
import java.nio.charset.StandardCharsets;
import java.nio.file.Files;
import java.nio.file.Path;
import java.util.Arrays;
import java.util.List;
import java.util.Set;
import java.util.TreeSet;
import java.util.regex.Matcher;
import java.util.regex.Pattern;
import java.util.stream.Stream;

/** Every call that README.md shows answers what stands behind it, and it shows every one of the face. */
public final class ReadmeTest {
    private static final String MADE = "BirdOffice office = new BirdOffice();";
    private static final Pattern CALL = Pattern.compile(
            "office\\.(\\w+)\\(([^()]*)\\); +// (-?\\d+|true|false|throws \\w+)(?:: (.+))?");

    private final Due due = new Due();
    private final Set<String> shown = new TreeSet<>();
    private BirdOffice office;
    private PlainOffice plain;
    private int calls;

    public static void main(String[] args) throws IOException {
        String text = Files.readString(Path.of("README.md"), StandardCharsets.UTF_8);
        ReadmeTest test = new ReadmeTest();
        test.makeCalls(text);
        test.showsTheFace();
        test.namesTheTests(text);
        test.due.end();
    }

    private void makeCalls(String text) {
        boolean java = false;
        for (String line : text.split("\n")) {
            if (line.startsWith("```")) {
                java = line.equals("```java");
            } else if (java) {
                makeCall(line);
            }
        }
    }

    private void makeCall(String line) {
        if (line.equals(MADE)) {
            office = new BirdOffice();
            plain = new PlainOffice();
            calls = 0;
            return;
        }
        Matcher call = CALL.matcher(line);
        boolean good = call.matches() && office != null;
        due.due("a call on an office, with its answer: [" + line + "]", good, true);
        if (!good) {
            return;
        }
        String name = call.group(1);
        int[] args = numbersIn(call.group(2));
        String want = call.group(3);
        calls++;
        shown.add(name);
        dueText(line, answerOf(office, name, args), want);
        dueText("by PlainOffice: " + line, answerOf(plain, name, args), want);
        due.due(line + " is one of 512 calls at most", calls <= 512, true);
        if (name.equals("feed")) {
            dueText(line + " feeds", '"' + textOf(args) + '"', call.group(4));
        }
    }

    private void dueText(String call, String got, String want) {
        due.due("[" + call + "] has [" + got + "], due is [" + want + "]", got.equals(want), true);
    }

    private static int[] numbersIn(String text) {
        return Arrays.stream(text.split(", ")).mapToInt(n -> Long.decode(n).intValue()).toArray();
    }

    private static String textOf(int[] numbers) {
        StringBuilder text = new StringBuilder();
        for (int number : numbers) {
            for (int shift = 24; shift >= 0; shift -= 8) {
                text.append((char) (number >>> shift & 255));
            }
        }
        return text.toString();
    }

    private static String answerOf(Object asked, String name, int[] args) {
        Class<?>[] types = new Class<?>[args.length];
        Arrays.fill(types, int.class);
        Object[] values = Arrays.stream(args).boxed().toArray();
        try {
            return String.valueOf(asked.getClass().getDeclaredMethod(name, types).invoke(asked, values));
        } catch (InvocationTargetException e) {
            return "throws " + e.getCause().getClass().getSimpleName();
        } catch (ReflectiveOperationException e) {
            return "no such call";
        }
    }

    private void showsTheFace() {
        for (Method m : BirdOffice.class.getDeclaredMethods()) {
            if (Modifier.isPublic(m.getModifiers())) {
                due.due("README.md shows " + m.getName(), shown.contains(m.getName()), true);
            }
        }
    }

    private void namesTheTests(String text) {
        try (Stream<Path> files = Files.list(Path.of("src/test/java"))) {
            List<String> names = files.map(f -> f.getFileName().toString())
                    .filter(n -> n.endsWith("Test.java")).map(n -> n.replace(".java", "")).toList();
            due.due("there are tests", names.isEmpty(), false);
            for (String name : names) {
                boolean named = Pattern.compile("\\b" + name + "\\b").matcher(text).find();
                due.due("README.md names " + name, named, true);
            }
        } catch (IOException e) {
            throw new UncheckedIOException(e);
        }
    }
}
