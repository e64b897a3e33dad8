import java.nio.file.Files;
import java.nio.file.Path;
import java.util.HashSet;
import java.util.List;
import java.util.Set;
import java.util.regex.Matcher;
import java.util.regex.Pattern;

/** What README.md shows and names is so: its example answers as it says, no call and no test is left out. */
public final class ReadmeTest {
    private static final Check CHECK = new Check();
    private static final Pattern SHOWN = Pattern.compile("^x\\.(\\w+)\\(([^)]*)\\); +// (-?\\d+)\\b", Pattern.MULTILINE);
    private static final Pattern TEXT = Pattern.compile("```text\n([^\n]*)\n```");
    private static final Pattern LISTED = Pattern.compile("^\\| `(\\w+)\\(([^)]*)\\)` \\|", Pattern.MULTILINE);

    public static void main(String[] args) throws Exception {
        String readme = Files.readString(Path.of("README.md"));
        exampleAnswersAsShown(readme);
        textTellsTheExample(readme);
        callsAreListed(readme);
        testsAreListed(readme);
        CHECK.finish("ReadmeTest");
    }

    private static void exampleAnswersAsShown(String readme) {
        NoonShade x = new NoonShade();
        Matcher shown = SHOWN.matcher(readme);
        int rows = 0;
        while (shown.find()) {
            int[] a = numbers(shown.group(2));
            CHECK.due(Calls.told(shown.group(1), a), Calls.ask(x, shown.group(1), a), Long.parseLong(shown.group(3)));
            rows++;
        }
        CHECK.holds("an example of ten calls or more", rows >= 10);
    }

    private static int[] numbers(String list) {
        if (list.isBlank()) {
            return new int[0];
        }
        String[] told = list.split(", ");
        int[] a = new int[told.length];
        for (int k = 0; k < a.length; k++) {
            a[k] = Integer.parseInt(told[k]);
        }
        return a;
    }

    private static void textTellsTheExample(String readme) {
        Matcher text = TEXT.matcher(readme);
        CHECK.holds("a text is shown", text.find());
        NoonShade told = new NoonShade();
        CHECK.due("read of the text shown", Check.read(told, text.group(1)), 5);
        told.clear();
        NoonShade called = new NoonShade();
        called.island(11);
        called.caster(1, 9, 2);
        called.jar(5);
        called.ladle(0, 0);
        called.hours(2);
        // what was read can not be undone, what was called can: behind a jar that comes neither can be
        called.jar(0);
        told.jar(0);
        CHECK.due("digest of the text shown", told.digest(), called.digest());
    }

    private static void callsAreListed(String readme) {
        Set<String> listed = new HashSet<>();
        Matcher row = LISTED.matcher(readme);
        while (row.find()) {
            String list = row.group(2);
            int parameters = list.isBlank() ? 0 : list.split(", ").length;
            CHECK.holds(row.group(1) + " is listed once", listed.add(row.group(1) + "/" + parameters));
        }
        for (java.lang.reflect.Method m : NoonShade.class.getDeclaredMethods()) {
            if (java.lang.reflect.Modifier.isPublic(m.getModifiers())) {
                CHECK.holds(m.getName() + " is listed", listed.remove(m.getName() + "/" + m.getParameterCount()));
            }
        }
        CHECK.holds("listed, but no call: " + listed, listed.isEmpty());
    }

    private static void testsAreListed(String readme) throws Exception {
        try (java.util.stream.Stream<Path> files = Files.list(Path.of("src/test/java"))) {
            List<String> names = files.map(f -> f.getFileName().toString()).filter(n -> n.endsWith("Test.java")).toList();
            for (String name : names) {
                String test = name.substring(0, name.length() - ".java".length());
                CHECK.holds(test + " is listed", readme.contains("| `" + test + "` |"));
            }
            CHECK.holds("there are tests", !names.isEmpty());
        }
    }
}
