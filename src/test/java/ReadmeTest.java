import java.io.IOException;
import java.lang.reflect.Method;
import java.lang.reflect.Modifier;
import java.nio.file.Files;
import java.nio.file.Path;
import java.util.Set;
import java.util.TreeSet;
import java.util.regex.Matcher;
import java.util.regex.Pattern;

/** What README.md says of the calls, the answers and the lines of a text holds for the class. */
public final class ReadmeTest {
    private static final int EXAMPLES = 16;
    private static final int CONSTANTS = 5;
    private static final int LINES = 7;

    public static void main(String[] args) throws IOException, ReflectiveOperationException {
        String page = Files.readString(Path.of("README.md"));
        everyCallHasARow(page);
        constants(page);
        example(page);
        linesOfAText(page);
        Check.holds("the command that runs the tests", page.contains("\n.ci/run\n"));
        Check.finish("ReadmeTest");
    }

    private static int parameters(String list) {
        return list.isEmpty() ? 0 : list.split(",").length;
    }

    private static void everyCallHasARow(String page) {
        Set<String> rows = new TreeSet<>();
        Matcher row = Pattern.compile("(?m)^\\| `(\\w+)\\(([^)]*)\\)` \\|").matcher(page);
        while (row.find()) {
            String call = row.group(1) + " with " + parameters(row.group(2));
            Check.holds("one row for " + call, rows.add(call));
        }
        Set<String> calls = new TreeSet<>();
        for (Method method : TagReader.class.getDeclaredMethods()) {
            if (Modifier.isPublic(method.getModifiers())) {
                calls.add(method.getName() + " with " + method.getParameterCount());
            }
        }
        Check.holds("rows " + rows + " for calls " + calls, rows.equals(calls));
    }

    private static void constants(String page) throws ReflectiveOperationException {
        int found = 0;
        Matcher row = Pattern.compile("(?m)^\\| `([A-Z]+)` \\| (-\\d+) \\|").matcher(page);
        while (row.find()) {
            int value = TagReader.class.getField(row.group(1)).getInt(null);
            Check.due(row.group(1), value, Long.parseLong(row.group(2)));
            found++;
        }
        Check.due("constants told", found, CONSTANTS);
    }

    /** Each row of the example tells its answer first. */
    private static void example(String page) {
        TagReader reader = new TagReader();
        int found = 0;
        Matcher row = Pattern.compile("(?m)^reader\\.(\\w+)\\(([^)]*)\\); +// (-?\\d+)\\b").matcher(page);
        while (row.find()) {
            Call call = new Call(row.group(1), arguments(row.group(2)));
            Check.due("the example's " + call, call.on(reader), Long.parseLong(row.group(3)));
            found++;
        }
        Check.due("rows of the example", found, EXAMPLES);
    }

    private static Object[] arguments(String list) {
        Object[] all = new Object[parameters(list)];
        for (int i = 0; i < all.length; i++) {
            String one = list.split(",")[i].trim();
            if (one.endsWith("L")) {
                all[i] = Long.decode(one.substring(0, one.length() - 1));
            } else {
                all[i] = Integer.valueOf(one);
            }
        }
        return all;
    }

    private static void linesOfAText(String page) {
        int found = 0;
        int rule = 0;
        Matcher row = Pattern.compile("(?m)^\\| `([a-z]+)((?: N)+) ;` \\| ([^|]+) \\| ([^|]+) \\|").matcher(page);
        while (row.find()) {
            String[] bounds = row.group(3).split(", ");
            String[] atFirst = row.group(4).split(", ");
            Check.due(row.group(1) + " has numbers", bounds.length, row.group(2).length() / 2);
            Check.due(row.group(1) + " has numbers at first", atFirst.length, bounds.length);
            for (int i = 0; i < bounds.length; i++) {
                Check.due("at first " + row.group(1), new TagReader().rule(rule + i), Long.parseLong(atFirst[i]));
                boundsOfNumber(row.group(1), atFirst, i, bounds[i].split(" to "));
            }
            rule += bounds.length;
            found++;
        }
        Check.due("lines told", found, LINES);
        Check.due("rules told", new TagReader().rule(rule), TagReader.BAD);
    }

    private static void boundsOfNumber(String name, String[] numbers, int which, String[] bounds) {
        int least = Integer.parseInt(bounds[0]);
        int most = Integer.parseInt(bounds[1]);
        Check.due(name + " takes " + least, faultOf(name, numbers, which, least), 0);
        Check.due(name + " takes " + most, faultOf(name, numbers, which, most), 0);
        Check.due(name + " refuses " + (most + 1), faultOf(name, numbers, which, most + 1), 3);
        if (least > 0) {
            Check.due(name + " refuses " + (least - 1), faultOf(name, numbers, which, least - 1), 3);
        }
    }

    private static int faultOf(String name, String[] numbers, int which, int value) {
        StringBuilder text = new StringBuilder(name);
        for (int i = 0; i < numbers.length; i++) {
            text.append(' ').append(i == which ? String.valueOf(value) : numbers[i]);
        }
        TagReader reader = new TagReader();
        Check.tell(reader, text.append(';').toString());
        return reader.fault();
    }
}
