import java.util.ArrayList;
import java.util.HashMap;
import java.util.List;
import java.util.Map;

/** A state that calls lead to, from which other calls are tried on objects of their own. */
final class Start {
    // What is looked at behind a call: the states of the history, and what later changes bring.
    private static final String[][] LATER = {
        {}, {"undo"}, {"undo", "undo"}, {"undo", "undo", "undo"}, {"undo", "undo", "undo", "undo"},
        {"set 0 7"}, {"set 6 50", "undo", "undo"}, {"set 5 1", "set 5 2", "set 5 3", "undo", "undo", "undo", "undo"},
        {"creep 0 500"}, {"band 0 100 0 9"}, {"stake 0 3 9"}, {"pull 0"}, {"years 1"}, {"live"}, {"live", "undo"},
        {"type 59"}, {"type 48"}, {"clearText"},
    };

    private final Answers answers;
    private final String[] calls;
    private final Map<String[], List<String>> without = new HashMap<>();

    Start(Answers answers, String... calls) {
        this.answers = answers;
        this.calls = calls;
    }

    /** Settings with which snow and melt are the same at each height. */
    static Start flat(Answers answers, int snow, int melt, String... more) {
        List<String> calls = new ArrayList<>(List.of("set 0 " + snow, "set 1 0", "set 2 " + melt, "set 3 0"));
        calls.addAll(List.of(more));
        return new Start(answers, calls.toArray(new String[0]));
    }

    Start with(String... more) {
        List<String> all = new ArrayList<>(List.of(calls));
        all.addAll(List.of(more));
        return new Start(answers, all.toArray(new String[0]));
    }

    Run run() {
        return new Run(answers, calls);
    }

    /** A call and its answer, on an object of its own. */
    Start due(String call, long want) {
        run().due(call, want);
        return this;
    }

    /** The call returns the error, and everything behind it is as if it had not been called. */
    Start refuses(String call, long error) {
        due(call, error);
        return leaves(call);
    }

    /** Everything behind the call is as if it had not been called. */
    Start leaves(String call) {
        for (String[] later : LATER) {
            List<String> before = without.computeIfAbsent(later, l -> behind(run(), l));
            Run run = run();
            run.ask(call);
            List<String> after = behind(run, later);
            for (int i = 0; i < Math.max(before.size(), after.size()); i++) {
                String old = i < before.size() ? before.get(i) : "nothing";
                String now = i < after.size() ? after.get(i) : "nothing";
                // Told only where it is wrong: there are many lines.
                answers.holds(old.equals(now) ? "" : run + ", behind " + call + ": " + now + ", due is " + old,
                        old.equals(now));
            }
        }
        return this;
    }

    private static List<String> behind(Run run, String[] later) {
        List<String> lines = new ArrayList<>();
        for (String call : later) {
            lines.add(call + " is " + run.ask(call));
        }
        lines.addAll(run.everything());
        return lines;
    }

    /**
     * The sign ? stands for an argument with a range: its least and greatest value are taken; those just outside,
     * and the least and the greatest int, are invalid and change nothing.
     */
    Start range(String call, int least, int most) {
        for (int value : new int[] {least, most}) {
            String told = call.replace("?", Integer.toString(value));
            Run run = run();
            answers.holds(run + ": " + told + " is possible", !Calls.isError(run.ask(told)));
        }
        for (String value : new String[] {"" + (least - 1), "" + (most + 1), "MIN", "MAX"}) {
            refuses(call.replace("?", value), Calls.INVALID);
        }
        return this;
    }
}
