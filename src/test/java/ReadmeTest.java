import java.io.IOException;
import java.lang.reflect.InvocationTargetException;
import java.lang.reflect.Method;
import java.nio.file.Files;
import java.nio.file.Path;
import java.util.List;
import java.util.regex.Matcher;
import java.util.regex.Pattern;

/** README.md tells the truth: its example's answers, and its table of the parameters. */
public final class ReadmeTest {
    private static final Pattern CALL = Pattern.compile("x\\.(\\w+)\\(([^)]*)\\); +// (-?\\w+).*");
    private static final Pattern PARAMETER =
        Pattern.compile("\\| (\\d+) \\| [A-Z ]+ \\| (\\d+) to (\\d+) \\| (\\d+) (?=\\|)");

    public static void main(String[] args) throws IOException, IllegalAccessException {
        List<String> readme = Files.readAllLines(Path.of("README.md"));
        theExampleAnswersAsSaid(readme);
        theParametersAreAsSaid(readme);
        Check.end();
    }

    private static void theExampleAnswersAsSaid(List<String> readme) throws IllegalAccessException {
        ChamberPacer x = new ChamberPacer();
        int calls = 0;
        for (String line : readme) {
            Matcher call = CALL.matcher(line);
            if (call.matches()) {
                calls++;
                String got = answer(x, call.group(1), call.group(2));
                Check.due(line + " <- " + got + ":", got.equals(call.group(3)), true);
            } else {
                Check.due("has a call without its answer: " + line, line.startsWith("x."), false);
            }
        }
        Check.due("the example has calls", calls > 0, true);
    }

    private static String answer(ChamberPacer x, String name, String numbers) throws IllegalAccessException {
        Object[] arguments = Pattern.compile(", ").splitAsStream(numbers)
            .filter(number -> !number.isEmpty()).map(Integer::valueOf).toArray();
        try {
            return method(name).invoke(x, arguments).toString();
        } catch (InvocationTargetException e) {
            return e.getCause().getClass().getSimpleName();
        }
    }

    private static Method method(String name) {
        for (Method m : ChamberPacer.class.getMethods()) {
            if (m.getName().equals(name)) {
                return m;
            }
        }
        throw new AssertionError("README.md has a call that is not there: " + name);
    }

    private static void theParametersAreAsSaid(List<String> readme) {
        int found = 0;
        for (String line : readme) {
            Matcher row = PARAMETER.matcher(line);
            while (row.find()) {
                found++;
                parameterIsAsSaid(number(row, 1), number(row, 2), number(row, 3), number(row, 4));
            }
        }
        Check.due("parameters in README.md", found, 14);
    }

    private static void parameterIsAsSaid(int k, int least, int most, int atFirst) {
        ChamberPacer x = new ChamberPacer();
        Check.due("parameter " + k + " at first", x.parameter(k), atFirst);
        Check.due("parameter " + k + " takes its least", x.program(k, least), atFirst);
        Check.due("parameter " + k + " takes its most", x.program(k, most), least);
        Check.programRefuses(x, k, least - 1, IllegalArgumentException.class);
        Check.programRefuses(x, k, most + 1, IllegalArgumentException.class);
    }

    private static int number(Matcher row, int group) {
        return Integer.parseInt(row.group(group));
    }
}
