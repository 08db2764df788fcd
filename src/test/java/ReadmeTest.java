import java.io.IOException;
import java.lang.reflect.Field;
import java.lang.reflect.Method;
import java.lang.reflect.Modifier;
import java.nio.file.Files;
import java.nio.file.Path;
import java.util.ArrayList;
import java.util.List;
import java.util.TreeSet;
import java.util.regex.Matcher;
import java.util.regex.Pattern;
import java.util.stream.Stream;

/** README.md says what is so: its example, its constants, its calls and its lists of tests. */
public final class ReadmeTest {
    private static final Pattern CALL = Pattern.compile("ice\\.(\\w+)\\((.*?)\\); +// (-?\\d+).*");

    private static final Answers answers = new Answers("ReadmeTest");

    public static void main(String[] args) throws IOException {
        List<String> page = Files.readAllLines(Path.of("README.md"));
        example(page);
        constants(page);
        calls(page);
        tests(page);
        places(page);
        answers.end();
    }

    private static void example(List<String> page) {
        int from = page.indexOf("```java") + 1;
        answers.holds("the page has an example", from > 0);
        answers.holds("the example makes an object", page.get(from).equals("IceTongue ice = new IceTongue();"));
        IceTongue ice = new IceTongue();
        int made = 0;
        for (int i = from + 1; i < page.size() && !page.get(i).equals("```"); i++) {
            Matcher call = CALL.matcher(page.get(i));
            boolean told = call.matches();
            answers.holds("the example tells the answer: " + page.get(i), told);
            if (told) {
                made++;
                long got = Calls.ask(ice, (call.group(1) + " " + numbers(call.group(2))).trim());
                answers.due("the example's " + page.get(i), got, Long.parseLong(call.group(3)));
            }
        }
        answers.holds("the example has calls: " + made, made >= 10);
    }

    private static String numbers(String arguments) {
        return arguments.startsWith("'") ? "" + (int) arguments.charAt(1) : arguments.replace(",", "");
    }

    private static void constants(List<String> page) {
        TreeSet<String> due = new TreeSet<>();
        for (Field f : IceTongue.class.getFields()) {
            try {
                due.add("IceTongue." + f.getName() + " " + f.getInt(null));
            } catch (IllegalAccessException e) {
                answers.holds(f + " can be read", false);
            }
        }
        TreeSet<String> told = new TreeSet<>();
        for (String[] row : rows(page, "constant")) {
            told.add(row[0].replace("`", "") + " " + row[1]);
            answers.holds(row[0] + " is told", !row[2].isEmpty());
        }
        answers.due("constants", told.size(), 4);
        answers.holds("the constants are " + due + ", not " + told, due.equals(told));
    }

    private static void calls(List<String> page) {
        TreeSet<String> due = new TreeSet<>();
        for (Method m : IceTongue.class.getDeclaredMethods()) {
            if (Modifier.isPublic(m.getModifiers())) {
                due.add(m.getName());
            }
        }
        TreeSet<String> told = new TreeSet<>();
        int promise = 2;
        for (String[] row : rows(page, "calls")) {
            String[] names = row[0].replace("`", "").split(", ");
            told.addAll(List.of(names));
            answers.due("the promises of " + row[0], row[1].equals(promise + " to " + (promise + names.length - 1))
                    ? 1 : 0, 1);
            promise += names.length;
        }
        answers.holds("the calls are " + due + ", not " + told, due.equals(told));
        answers.due("the promise behind the last one", promise, 25);
    }

    private static void tests(List<String> page) throws IOException {
        TreeSet<String> told = new TreeSet<>();
        for (String head : new String[] {"test", "file"}) {
            for (String[] row : rows(page, head)) {
                told.add(row[0].replace("`", "") + ".java");
            }
        }
        TreeSet<String> due = new TreeSet<>();
        try (Stream<Path> files = Files.list(Path.of("src/test/java"))) {
            files.forEach(f -> due.add(f.getFileName().toString()));
        }
        answers.holds("the tests and their helpers are " + due + ", not " + told, due.equals(told));
    }

    private static void places(List<String> page) {
        String all = String.join("\n", page);
        for (String place : new String[] {".ci/run", "src/main/java/IceTongue.java", "../shared/DOC.md",
            "../shared/LANGUAGE.md", "../shared/tests", "src/test/java"}) {
            answers.holds("the page names " + place, all.contains(place));
            answers.holds(place + " is there", Files.exists(Path.of(place)));
        }
        answers.holds(".ci/run can be run", Files.isExecutable(Path.of(".ci/run")));
    }

    /** The rows of the table whose first head is this, by cells. */
    private static List<String[]> rows(List<String> page, String head) {
        List<String[]> rows = new ArrayList<>();
        boolean inside = false;
        for (String line : page) {
            if (line.startsWith("| " + head + " |")) {
                inside = true;
            } else if (!line.startsWith("|")) {
                inside = false;
            } else if (inside && !line.startsWith("|---")) {
                rows.add(line.substring(2, line.length() - 2).split(" \\| "));
            }
        }
        answers.holds("the page has a table of " + head, !rows.isEmpty());
        return rows;
    }
}
