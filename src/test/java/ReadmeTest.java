import java.lang.reflect.Method;
import java.lang.reflect.Modifier;
import java.nio.file.DirectoryStream;
import java.nio.file.Files;
import java.nio.file.Path;
import java.util.ArrayList;
import java.util.List;
import java.util.Map;
import java.util.TreeMap;
import java.util.regex.Matcher;
import java.util.regex.Pattern;

/**
 * README.md holds what it says: its examples answer so, each call has its row in the document's words,
 * and its commands are those of .ci/run. Run in the project's directory.
 */
public final class ReadmeTest {
    private static final Check CHECK = new Check();
    private static final Path DOCUMENT = Path.of("../shared/DOC.md");
    private static final Pattern REFUSAL = Pattern.compile("\\b(UNKNOWN|OUTSIDE|STATE|FULL)\\b");

    public static void main(String[] args) throws Exception {
        String readme = Files.readString(Path.of("README.md"));
        examples(blocks(readme, "java"));
        constants(readme);
        Map<String, String[]> rows = rows(readme);
        everyCallHasItsRow(rows);
        if (Files.isReadable(DOCUMENT)) {
            inTheDocumentsWords(rows, promises(Files.readString(DOCUMENT)));
        } else {
            System.out.println("there is no " + DOCUMENT + ": its words are not looked at");
        }
        commands(blocks(readme, "sh"), Files.readString(Path.of(".ci/run")));
        everyTestIsNamed(readme);
        CHECK.end();
    }

    private static List<String> blocks(String readme, String kind) {
        List<String> lines = new ArrayList<>();
        Matcher block = Pattern.compile("(?s)```" + kind + "\n(.*?)```").matcher(readme);
        while (block.find()) {
            lines.addAll(List.of(block.group(1).split("\n")));
        }
        return lines;
    }

    // ---- examples

    private static void examples(List<String> lines) throws ReflectiveOperationException {
        CHECK.isTrue("there are examples", !lines.isEmpty());
        Pattern call = Pattern.compile("war\\.(\\w+)\\(([^)]*)\\); *// (-?\\d+)(:.*)?");
        KitesWar war = null;
        for (String line : lines) {
            Matcher told = call.matcher(line);
            if (line.equals("KitesWar war = new KitesWar();")) {
                war = new KitesWar();
            } else if (war != null && told.matches()) {
                CHECK.due(line, answer(war, told.group(1), told.group(2)), Long.parseLong(told.group(3)));
            } else {
                CHECK.isTrue("a line that can be read: " + line, false);
            }
        }
    }

    private static long answer(KitesWar war, String name, String list) throws ReflectiveOperationException {
        String[] told = list.isEmpty() ? new String[0] : list.split(", ");
        for (Method m : KitesWar.class.getMethods()) {
            if (m.getName().equals(name) && m.getParameterCount() == told.length) {
                return ((Number) m.invoke(war, values(m.getParameterTypes(), told))).longValue();
            }
        }
        throw new NoSuchMethodException(name);
    }

    private static Object[] values(Class<?>[] types, String[] told) {
        Object[] values = new Object[told.length];
        for (int i = 0; i < told.length; i++) {
            if (types[i] == boolean.class) {
                values[i] = Boolean.valueOf(told[i]);
            } else if (types[i] == long.class) {
                values[i] = Long.decode(told[i].replace("L", ""));
            } else {
                values[i] = Integer.valueOf(told[i]);
            }
        }
        return values;
    }

    // ---- calls

    private static void constants(String readme) {
        CHECK.isTrue("UNKNOWN", readme.contains("`UNKNOWN` (" + KitesWar.UNKNOWN + ":"));
        CHECK.isTrue("OUTSIDE", readme.contains("`OUTSIDE` (" + KitesWar.OUTSIDE + ":"));
        CHECK.isTrue("STATE", readme.contains("`STATE` (" + KitesWar.STATE + ":"));
        CHECK.isTrue("FULL", readme.contains("`FULL` (" + KitesWar.FULL + ")"));
        CHECK.isTrue("NONE", readme.contains("`NONE` is " + KitesWar.NONE + "."));
    }

    /** By the call as it is written: what it takes, what it answers, what it refuses. */
    private static Map<String, String[]> rows(String readme) {
        Map<String, String[]> rows = new TreeMap<>();
        Matcher row = Pattern.compile("(?m)^\\| `([^`]*)` \\|([^|]*)\\|([^|]*)\\|([^|]*)\\|$").matcher(readme);
        while (row.find()) {
            String[] cells = {row.group(2).trim(), row.group(3).trim(), row.group(4).trim()};
            CHECK.isTrue("one row of " + row.group(1), rows.put(row.group(1), cells) == null);
        }
        return rows;
    }

    private static void everyCallHasItsRow(Map<String, String[]> rows) {
        List<String> calls = new ArrayList<>();
        for (String call : rows.keySet()) {
            calls.add(call.replaceAll("(int|long|boolean) \\w+([,)])", "$1$2").replace(", ", ","));
        }
        int open = 0;
        for (Method m : KitesWar.class.getDeclaredMethods()) {
            if (Modifier.isPublic(m.getModifiers())) {
                open++;
                String call = m.toString().replaceAll("public |KitesWar\\.", "");
                CHECK.isTrue("a row of " + call, calls.contains(call));
            }
        }
        CHECK.due("rows", rows.size(), open);
    }

    /** By the call as it is written: what its promise says. */
    private static Map<String, String> promises(String document) {
        Map<String, String> promises = new TreeMap<>();
        Matcher promise = Pattern.compile("## Promise \\d+: .*\n\n`([^`]*)`: (.*)\n").matcher(document);
        while (promise.find()) {
            promises.put(promise.group(1), promise.group(2));
        }
        CHECK.due("promises", promises.size(), 32);
        return promises;
    }

    private static void inTheDocumentsWords(Map<String, String[]> rows, Map<String, String> promises) {
        for (String call : rows.keySet()) {
            String promise = promises.get(call);
            CHECK.isTrue("a promise of " + call, promise != null);
            if (promise == null) {
                continue;
            }
            String[] cells = rows.get(call);
            String row = String.join(" ", cells);
            Matcher word = Pattern.compile("-?\\d+|\\w+").matcher(promise);
            while (word.find()) {
                boolean said = Pattern.compile("(?<!\\w)" + word.group() + "\\b").matcher(row).find();
                CHECK.isTrue("the row of " + call + " says " + word.group(), said);
            }
            CHECK.isTrue("refusals of " + call, refusals(cells[2]).equals(refusals(promise)));
            CHECK.isTrue("NONE of " + call, cells[1].contains("NONE") == promise.contains("NONE"));
            CHECK.isTrue("each number of " + call + " is told", namesAllItTakes(call, cells[0]));
        }
    }

    private static List<String> refusals(String text) {
        List<String> names = new ArrayList<>();
        Matcher name = REFUSAL.matcher(text);
        while (name.find()) {
            names.add(name.group());
        }
        return names;
    }

    private static boolean namesAllItTakes(String call, String cell) {
        Matcher name = Pattern.compile("(int|long|boolean) (\\w+)(?=[,)])").matcher(call);
        while (name.find()) {
            if (!Pattern.compile("\\b" + name.group(2) + "\\b").matcher(cell).find()) {
                return false;
            }
        }
        return true;
    }

    // ---- tests

    private static void commands(List<String> lines, String script) {
        List<String> commands = new ArrayList<>();
        for (String line : lines) {
            if (line.startsWith("java")) {
                commands.add(line);
                CHECK.isTrue(".ci/run runs: " + line, script.contains(line));
            } else {
                CHECK.isTrue("a command: " + line, line.equals(".ci/run"));
            }
        }
        for (String line : script.split("\n")) {
            if (Pattern.compile("\\b(javac|java) -").matcher(line).find()) {
                CHECK.isTrue("README.md names: " + line, commands.stream().anyMatch(line::contains));
            }
        }
    }

    private static void everyTestIsNamed(String readme) throws Exception {
        try (DirectoryStream<Path> tests = Files.newDirectoryStream(Path.of("src/test/java"), "*Test.java")) {
            for (Path test : tests) {
                String name = test.getFileName().toString().replace(".java", "");
                CHECK.isTrue("README.md names " + name, readme.contains("`" + name + "`"));
            }
        }
    }
}
