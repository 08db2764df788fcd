import com.sun.management.ThreadMXBean;
import java.io.IOException;
import java.io.PrintWriter;
import java.io.StringWriter;
import java.lang.management.ManagementFactory;
import java.lang.reflect.Constructor;
import java.lang.reflect.Field;
import java.lang.reflect.Method;
import java.lang.reflect.Modifier;
import java.nio.file.Files;
import java.nio.file.Path;
import java.util.ArrayList;
import java.util.Arrays;
import java.util.List;
import java.util.Map;
import java.util.Optional;
import java.util.TreeMap;
import java.util.TreeSet;
import java.util.regex.Matcher;
import java.util.regex.Pattern;
import java.util.spi.ToolProvider;

/** The face of the document, and what can be seen of the rules of LANGUAGE.md. */
public final class LanguageTest {
    private static final String SOURCE = "src/main/java/IceTongue.java";
    private static final int MOST_LINES = 60;
    private static final int MOST_DEEP = 8;

    private static final Answers answers = new Answers("LanguageTest");

    public static void main(String[] args) throws IOException {
        rule1Face();
        rule1NothingElse();
        rule2And5And11Classes();
        String code = withoutCommentsAndTexts(Files.readString(Path.of(SOURCE)));
        rule4And6Words(code);
        rule11Methods(code);
        rules8And11Depth();
        rule7NoCallThrows();
        rule12WhatCallsMake();
        answers.end();
    }

    private static void rule1Face() {
        String[] face = {
            "int set(int,int)", "int band(int,int,int,int)", "int creep(int,int)", "int bandInfo(int,int)",
            "int layer(int,int,int)", "int ofYear(int)", "int line()", "int front(int)", "long account(int)",
            "int count(int)", "int stake(int,int,int)", "int pull(int)", "int stakeInfo(int,int)",
            "int stakesIn(int)", "int years(int)", "int ifYears(int,int)", "int yearsTo(int)", "int steadyMelt()",
            "int undo()", "int type(int)", "int clearText()", "int fault(int)", "int live()",
        };
        TreeSet<String> due = new TreeSet<>(Arrays.asList(face));
        TreeSet<String> there = new TreeSet<>();
        for (Method m : IceTongue.class.getDeclaredMethods()) {
            if (Modifier.isPublic(m.getModifiers())) {
                StringBuilder text = new StringBuilder(m.getReturnType() + " " + m.getName() + "(");
                for (Class<?> type : m.getParameterTypes()) {
                    text.append(text.charAt(text.length() - 1) == '(' ? "" : ",").append(type);
                }
                there.add(text + ")");
                answers.holds(m + " is of the object", !Modifier.isStatic(m.getModifiers()));
            }
        }
        answers.holds("the methods are " + due + ", not " + there, due.equals(there));
        answers.holds("the class is public", Modifier.isPublic(IceTongue.class.getModifiers()));
        answers.holds("the class is final", Modifier.isFinal(IceTongue.class.getModifiers()));
        answers.holds("the class is in no package", IceTongue.class.getPackageName().isEmpty());
        Constructor<?>[] made = IceTongue.class.getDeclaredConstructors();
        answers.due("constructors", made.length, 1);
        answers.holds("it is public", Modifier.isPublic(made[0].getModifiers()));
        answers.due("what it takes", made[0].getParameterCount(), 0);
    }

    private static void rule1NothingElse() {
        TreeSet<String> constants = new TreeSet<>();
        for (Field f : IceTongue.class.getDeclaredFields()) {
            if (!Modifier.isPrivate(f.getModifiers())) {
                constants.add(f.getName());
            }
        }
        answers.holds("the constants are the four, not " + constants, constants.equals(new TreeSet<>(
                List.of("INVALID_ARGUMENT", "NOT_POSSIBLE", "LIMIT_REACHED", "NOT_FOUND"))));
        TreeSet<String> publicNames = new TreeSet<>();
        for (Method m : IceTongue.class.getDeclaredMethods()) {
            if (Modifier.isPublic(m.getModifiers())) {
                publicNames.add(m.getName());
            }
        }
        for (Class<?> c : allClasses()) {
            for (Method m : c.getDeclaredMethods()) {
                boolean ofFace = c == IceTongue.class && Modifier.isPublic(m.getModifiers());
                answers.holds(m + " has a name of its own", ofFace || !publicNames.contains(m.getName()));
                answers.holds(m + " is private in the class of the face", c != IceTongue.class || ofFace
                        || Modifier.isPrivate(m.getModifiers()));
                answers.holds(m + " takes at most seven", m.getParameterCount() <= 7);
            }
        }
    }

    private static List<Class<?>> allClasses() {
        List<Class<?>> all = new ArrayList<>();
        all.add(IceTongue.class);
        all.addAll(Arrays.asList(IceTongue.class.getDeclaredClasses()));
        return all;
    }

    private static void rule2And5And11Classes() {
        answers.holds("at most 12 classes", allClasses().size() <= 12);
        for (Class<?> c : allClasses()) {
            answers.holds(c + " is static", c == IceTongue.class || Modifier.isStatic(c.getModifiers()));
            answers.holds(c + " holds no other classes", c == IceTongue.class || c.getDeclaredClasses().length == 0);
            int own = 0;
            for (Field f : c.getDeclaredFields()) {
                if (Modifier.isStatic(f.getModifiers())) {
                    answers.holds(f + " is final", Modifier.isFinal(f.getModifiers()));
                    answers.holds(f + " is a number or a row of them",
                            List.of("int", "int[]").contains(f.getType().getSimpleName()));
                } else {
                    own++;
                }
            }
            answers.holds(c + " has at most 20 fields", own <= 20);
        }
    }

    private static String withoutCommentsAndTexts(String source) {
        return source.replaceAll("(?s)/\\*.*?\\*/", "").replaceAll("//[^\n]*", "")
                .replaceAll("\"[^\"\n]*\"", "\"\"").replaceAll("'[^'\n]'", "' '");
    }

    private static void rule4And6Words(String code) {
        Matcher wrong = Pattern.compile("\\b(throw|throws|try|catch|synchronized|assert|package|protected|double|float"
                + "|Object|Thread|System\\.(?!arraycopy)\\w+|equals|hashCode|toString|\\w+Exact|var|record)\\b"
                + "|->|::|@|\\bstatic\\s*\\{").matcher(code);
        while (wrong.find()) {
            answers.holds("the source is without " + wrong.group(), false);
        }
        Matcher imports = Pattern.compile("import ([^;]+);").matcher(code);
        while (imports.find()) {
            answers.due("import " + imports.group(1), imports.group(1).equals("java.util.Arrays") ? 1 : 0, 1);
        }
        for (int i = 0; i < code.length(); i++) {
            if (code.charAt(i) > 126) {
                answers.holds("the source's signs are 1 to 126", false);
            }
        }
    }

    private static void rule11Methods(String code) {
        Matcher head = Pattern.compile("(?m)^( {4}| {8})(?! )[\\w<>\\[\\] ]+\\([^;{]*\\) \\{\\R(.*\\R)*?\\1}").matcher(code);
        int methods = 0;
        while (head.find()) {
            methods++;
            long lines = head.group().lines().count();
            answers.holds("a method of " + lines + " lines: " + head.group().lines().findFirst().orElse(""),
                    lines <= MOST_LINES);
        }
        answers.holds("methods were found: " + methods, methods > 60);
    }

    /** No method comes back to itself, and calls go at most eight deep. */
    private static void rules8And11Depth() {
        Optional<ToolProvider> javap = ToolProvider.findFirst("javap");
        if (javap.isEmpty()) {
            return;
        }
        Map<String, TreeSet<String>> called = new TreeMap<>();
        for (Class<?> c : allClasses()) {
            readCalls(c.getName(), codeOf(javap.get(), c), called);
        }
        answers.holds("methods were found: " + called.keySet(), called.size() > 60);
        for (String method : called.keySet()) {
            int depth = depth(called, method, 1);
            answers.holds(method + " goes " + depth + " deep", depth <= MOST_DEEP);
        }
    }

    private static String codeOf(ToolProvider javap, Class<?> c) {
        StringWriter out = new StringWriter();
        PrintWriter print = new PrintWriter(out);
        javap.run(print, print, "-c", "-p", "-cp", System.getProperty("java.class.path"), c.getName());
        print.flush();
        return out.toString();
    }

    private static void readCalls(String name, String code, Map<String, TreeSet<String>> called) {
        Pattern head = Pattern.compile("  (?! ).*?(\\w+|" + Pattern.quote(name) + ")\\(.*\\);");
        Pattern call = Pattern.compile("// Method (?:([\\w$]+)\\.)?\"?(<init>|\\w+)\"?:");
        String within = "";
        for (String line : code.split("\\R")) {
            Matcher begins = head.matcher(line);
            Matcher calls = call.matcher(line);
            if (begins.matches()) {
                within = name + "." + (begins.group(1).equals(name) ? "<init>" : begins.group(1));
                called.putIfAbsent(within, new TreeSet<>());
            } else if (called.containsKey(within) && calls.find()) {
                called.get(within).add((calls.group(1) == null ? name : calls.group(1)) + "." + calls.group(2));
            }
        }
    }

    // A method that comes back to itself goes deeper than any bound: here it ends behind the most.
    private static int depth(Map<String, TreeSet<String>> called, String method, int above) {
        int deepest = above;
        if (above <= MOST_DEEP) {
            for (String next : called.getOrDefault(method, new TreeSet<>())) {
                if (called.containsKey(next)) {
                    deepest = Math.max(deepest, depth(called, next, above + 1));
                }
            }
        }
        return deepest;
    }

    /** Whatever the arguments are, and far behind the 512th call too. */
    private static void rule7NoCallThrows() {
        int[] drawn = {Integer.MIN_VALUE, -1, 0, 0, 1, 1, 2, 3, 4, 5, 6, 9, 10, 44, 48, 49, 57, 59, 99, 100, 101, 300,
            499, 500, 501, 3000, 4999, 5000, 9000, 1000000, Integer.MAX_VALUE - 1, Integer.MAX_VALUE};
        long seed = 42;
        for (int object = 0; object < 40; object++) {
            IceTongue x = new IceTongue();
            int[] a = new int[5];
            for (int i = 0; i < 4000; i++) {
                for (int k = 0; k < a.length; k++) {
                    seed = seed * 6364136223846793005L + 1442695040888963407L;
                    a[k] = k == 4 ? (int) Math.floorMod(seed >> 33, 23L) : drawn[(int) Math.floorMod(seed >> 33, 32L)];
                }
                // Heights that come down leave room for many bands.
                a[0] = a[4] == 1 && i % 2 == 0 ? 5000 - i : a[0];
                Calls.ask(x, a[4], a);
            }
            long ice = x.account(0) + x.account(1) - x.account(2) - x.account(3);
            answers.due("the accounts of object " + object, x.account(4), ice);
            answers.due("the second way of object " + object, x.account(5), ice);
        }
    }

    /** No call makes anything: what a run holds is what the constructor has made. */
    private static void rule12WhatCallsMake() {
        ThreadMXBean threads = (ThreadMXBean) ManagementFactory.getThreadMXBean();
        if (!threads.isThreadAllocatedMemorySupported()) {
            return;
        }
        // The first round loads all that the calls need.
        dearCalls();
        long before = threads.getCurrentThreadAllocatedBytes();
        IceTongue x = new IceTongue();
        long made = threads.getCurrentThreadAllocatedBytes() - before;
        answers.holds("an object has at most 400000 bytes, not " + made, made <= 400000);
        before = threads.getCurrentThreadAllocatedBytes();
        dearCalls();
        long all = threads.getCurrentThreadAllocatedBytes() - before;
        answers.holds("calls make nothing: " + all + " bytes with the object, of " + made, all <= made + 4000);
        answers.due("the object is there", x.count(0), 0);
    }

    private static void dearCalls() {
        IceTongue x = new IceTongue();
        for (int i = 0; i < 10; i++) {
            x.band(5000 - i, 5000, 100 + i, 1000000);
        }
        for (int i = 0; i < 6; i++) {
            x.stake(0, i, 10000);
        }
        for (int i = 0; i < 4; i++) {
            x.type("1,1;".charAt(i));
        }
        for (int i = 0; i < 20; i++) {
            x.years(50);
            x.ifYears(100, i % 5);
            x.yearsTo(1);
            x.steadyMelt();
            x.live();
            x.fault(1);
            x.set(0, 1000 + i);
            x.undo();
            x.pull(0);
            x.account(5);
            x.count(5);
            x.layer(0, 3, 1);
            x.stakesIn(0);
        }
    }
}
