import java.io.IOException;
import java.lang.reflect.Method;
import java.lang.reflect.Modifier;
import java.nio.file.Files;
import java.nio.file.Path;
import java.util.List;
import java.util.regex.Matcher;
import java.util.regex.Pattern;

/** README.md says how to use the class: what it shows is what the class answers. */
public final class ReadmeTest {
    private static final Due due = new Due("ReadmeTest");
    private static final Pattern BLOCK = Pattern.compile("(?s)```java\n(.*?)```");
    private static final Pattern CALL = Pattern.compile("bench\\.(\\w+)\\((.*?)\\);\\s+// (-?\\d+)(: .*)?");
    private static final Pattern KIND = Pattern.compile(
        "\\| (\\d) \\| ([A-Z]+)( \\(a ([A-Z]+)\\))? \\| (-?\\d+) to (\\d+) \\| ((\\d+) to (\\d+))? ?\\|.*");

    public static void main(String[] args) throws IOException {
        String readme = Files.readString(Path.of("README.md"));
        examples(readme);
        calls(readme);
        findings(readme);
        kinds(readme.lines().toList());
        due.end();
    }

    private static void examples(String readme) {
        due.part("an example of README.md");
        Matcher block = BLOCK.matcher(readme);
        int blocks = 0;
        while (block.find()) {
            blocks++;
            Bench bench = new Bench(due);
            block.group(1).lines().skip(1).forEach(line -> example(bench, line));
        }
        due.holds("there are examples", blocks > 0);
    }

    private static void example(Bench bench, String line) {
        Matcher call = CALL.matcher(line);
        boolean told = call.matches();
        due.holds(line + " is a call with its answer", told);
        if (told) {
            bench.due(Long.parseLong(call.group(3)), call.group(1), arguments(call.group(2)));
        }
    }

    private static Object[] arguments(String list) {
        if (list.isEmpty()) {
            return new Object[0];
        }
        String[] texts = list.split(", ");
        Object[] arguments = new Object[texts.length];
        for (int k = 0; k < texts.length; k++) {
            boolean choice = texts[k].equals("true") || texts[k].equals("false");
            arguments[k] = choice ? (Object) Boolean.valueOf(texts[k]) : (Object) Integer.valueOf(texts[k]);
        }
        return arguments;
    }

    private static void calls(String readme) {
        due.part("the calls of README.md");
        for (Method method : TapeBench.class.getDeclaredMethods()) {
            if (Modifier.isPublic(method.getModifiers())) {
                String list = ",".repeat(Math.max(0, method.getParameterCount() - 1)).replace(",", "\\w+, ");
                String wanted = "`" + method.getName() + "\\(" + list + (method.getParameterCount() == 0 ? "" : "\\w+") + "\\)`";
                due.holds(method.getName() + " is told", Pattern.compile(wanted).matcher(readme).find());
            }
        }
    }

    private static void findings(String readme) {
        due.part("the findings of README.md");
        List<String> names = List.of("BEYOND", "MISSING", "SIZE", "KIND", "FULL", "NONE", "LOST");
        for (int k = 0; k < names.size(); k++) {
            String row = "| " + (-100001 - k) + " | " + names.get(k) + " |";
            due.holds(row + " is told", readme.contains(row));
        }
    }

    private static void kinds(List<String> lines) {
        due.part("the kinds of README.md");
        List<String> names = List.of("GAIN", "MEND", "FILL", "BRIDGE", "WARP", "CUT", "FADE");
        int kinds = 0;
        for (String line : lines) {
            Matcher row = KIND.matcher(line);
            if (row.matches()) {
                due.holds(line + " is in its order", kinds < 7 && row.group(2).equals(names.get(kinds)));
                bounds(kinds, row);
                due.holds(line + " is of a kind there", row.group(4) == null || isUnder(kinds, names.indexOf(row.group(4)), row));
                kinds++;
            }
        }
        due.is("kinds", kinds, 7);
    }

    private static void bounds(int kind, Matcher row) {
        int low = Integer.parseInt(row.group(5));
        int high = Integer.parseInt(row.group(6));
        boolean hasB = row.group(7) != null;
        int lowB = hasB ? Integer.parseInt(row.group(8)) : Bench.MIN;
        int highB = hasB ? Integer.parseInt(row.group(9)) : Bench.MAX;
        Bench bench = new Bench(due);
        bench.due(0, "layer", kind, low, lowB).due(1, "layer", kind, high, highB);
        bench.due(Bench.BEYOND, "layer", kind, low - 1, lowB).due(Bench.BEYOND, "layer", kind, high + 1, highB);
        if (hasB) {
            bench.due(Bench.BEYOND, "layer", kind, low, lowB - 1).due(Bench.BEYOND, "layer", kind, low, highB + 1);
        }
    }

    private static boolean isUnder(int kind, int above, Matcher row) {
        Bench bench = new Bench(due);
        bench.due(0, "layer", kind, Integer.parseInt(row.group(6)), 1);
        return bench.ask("as", 0, above) == 0;
    }
}
