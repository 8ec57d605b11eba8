import java.io.IOException;
import java.lang.reflect.Method;
import java.lang.reflect.Modifier;
import java.nio.file.Files;
import java.nio.file.Path;
import java.util.regex.Matcher;
import java.util.regex.Pattern;

/** README.md tells the truth: its example answers as it says, and its table names every call with its parameters. */
public final class ReadmeTest {
    private static final Path DOCUMENT = Path.of("README.md");
    private static final Pattern CALL = Pattern.compile("stage\\.(\\w+)\\(([^)]*)\\); +// (-?\\d+|[A-Z]+): .*");
    private static final int CALLS_OF_THE_EXAMPLE = 27;

    public static void main(String[] args) throws IOException, ReflectiveOperationException {
        String text = Files.readString(DOCUMENT);
        example(text);
        table(text);
        Due.finish();
    }

    private static void example(String text) throws ReflectiveOperationException {
        PuppetStage stage = new PuppetStage();
        int calls = 0;
        for (String line : text.split("\n")) {
            if (line.startsWith("stage.")) {
                calls++;
                Matcher call = CALL.matcher(line);
                Due.isTrue("README's form of a call: " + line, call.matches());
                if (call.matches()) {
                    Due.due(line, answer(stage, call.group(1), call.group(2)), numberOf(call.group(3)));
                }
            }
        }
        Due.due("calls of README's example", calls, CALLS_OF_THE_EXAMPLE);
    }

    private static long answer(PuppetStage stage, String name, String arguments) throws ReflectiveOperationException {
        String[] told = arguments.isEmpty() ? new String[0] : arguments.split(", ");
        Object[] numbers = new Object[told.length];
        Class<?>[] types = new Class<?>[told.length];
        for (int k = 0; k < told.length; k++) {
            numbers[k] = Integer.valueOf(told[k]);
            types[k] = int.class;
        }
        return (Long) PuppetStage.class.getMethod(name, types).invoke(stage, numbers);
    }

    private static long numberOf(String told) throws ReflectiveOperationException {
        return Character.isLetter(told.charAt(0)) ? PuppetStage.class.getField(told).getLong(null) : Long.parseLong(told);
    }

    private static void table(String text) {
        for (Method m : PuppetStage.class.getDeclaredMethods()) {
            if (Modifier.isPublic(m.getModifiers())) {
                Matcher row = Pattern.compile("`" + m.getName() + "\\(([^)]*)\\)`").matcher(text);
                boolean found = row.find();
                Due.isTrue(m.getName() + " is in README's table", found);
                if (found) {
                    long told = row.group(1).isEmpty() ? 0 : row.group(1).split(", ").length;
                    Due.due("parameters of " + m.getName() + " in README's table", told, m.getParameterCount());
                }
            }
        }
    }
}
