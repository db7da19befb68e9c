import java.lang.reflect.Method;
import java.nio.charset.StandardCharsets;
import java.nio.file.Files;
import java.nio.file.Path;
import java.util.HashSet;
import java.util.List;
import java.util.Set;
import java.util.regex.Matcher;
import java.util.regex.Pattern;

/** The calls that README.md tells, in its order on one object, answer what it says. */
final class ReadmeRuns {
    private static final Pattern CALL = Pattern.compile("^bench\\.(\\w+)\\(([^)]*)\\); *// (-?\\d+)(:.*)?$");
    private static final Pattern REFUSAL = Pattern.compile("^\\| `(-\\d+)` \\| `?([A-Z]+)`? .*$");

    private ReadmeRuns() {
    }

    private static List<String> rows() throws Exception {
        return Files.readAllLines(Path.of("README.md"), StandardCharsets.UTF_8);
    }

    static void callsAnswerWhatItSays(Due due) throws Exception {
        WholeTurns bench = new WholeTurns();
        Set<String> called = new HashSet<>();
        for (String row : rows()) {
            if (!row.startsWith("bench.")) continue;
            Matcher matcher = CALL.matcher(row);
            due.holds("a call with its answer: " + row, matcher.matches());
            if (!matcher.matches()) continue;
            called.add(matcher.group(1));
            due.is(row, answer(bench, matcher.group(1), matcher.group(2)), Long.parseLong(matcher.group(3)));
        }
        due.holds("it tells most of the calls, not only " + called, called.size() >= 25);
    }

    private static long answer(WholeTurns bench, String name, String numbers) throws Exception {
        for (Method method : WholeTurns.class.getDeclaredMethods()) {
            if (!method.getName().equals(name)) continue;
            String[] told = numbers.isEmpty() ? new String[0] : numbers.split(", ");
            Object[] given = new Object[told.length];
            for (int i = 0; i < told.length; i++) {
                if (method.getParameterTypes()[i] == long.class) given[i] = Long.parseLong(told[i]);
                else given[i] = Integer.parseInt(told[i]);
            }
            return ((Number) method.invoke(bench, given)).longValue();
        }
        return Long.MIN_VALUE;
    }

    static void refusalsHaveTheirNumbers(Due due) throws Exception {
        Set<String> told = new HashSet<>();
        for (String row : rows()) {
            Matcher matcher = REFUSAL.matcher(row);
            if (matcher.matches()) told.add(matcher.group(2) + " " + matcher.group(1));
        }
        Set<String> numbers = Set.of("NONE " + Due.NONE, "BAD " + Due.BAD, "STATE " + Due.STATE, "FULL " + Due.FULL, "NULL " + Due.NULL,
            "PLACE " + Due.PLACE, "KIND " + Due.KIND, "SIZE " + Due.SIZE, "STORE " + Due.STORE);
        due.holds("the refusals are told, not " + told, told.equals(numbers));
    }
}
