import java.util.ArrayList;
import java.util.List;

/**
 * An object with the calls that were made on it. Besides the calls of the face there are "write 1,1;", which types
 * a text, and "until 500", which lets years go by up to that year.
 */
final class Run {
    private static final int MOST_CALLS = 512;
    private static final int[] YEARS_ASKED = {0, 1, 2, 3, 4, 5, 6, 250, 499, 500};
    private static final int LAYERS_ASKED = 4;

    private final Answers answers;
    private final List<String> calls = new ArrayList<>();
    private final IceTongue x = new IceTongue();

    Run(Answers answers, String... calls) {
        this.answers = answers;
        play(calls);
    }

    /** Calls that lead somewhere: none of them may return an error. */
    Run play(String... more) {
        for (String call : more) {
            if (call.startsWith("write ")) {
                write(call.substring("write ".length()));
            } else if (call.startsWith("until ")) {
                until(Integer.parseInt(call.substring("until ".length())));
            } else {
                String behind = toString();
                answers.holds(behind + ": " + call + " is possible", !Calls.isError(ask(call)));
            }
        }
        return this;
    }

    private void write(String text) {
        for (int i = 0; i < text.length(); i++) {
            play("type " + (int) text.charAt(i));
        }
    }

    private void until(int year) {
        for (int y = (int) ask("count 1"); y < year; y += Math.min(100, year - y)) {
            play("years " + Math.min(100, year - y));
        }
    }

    long ask(String call) {
        calls.add(call);
        if (calls.size() > MOST_CALLS) {
            answers.holds(this + ": at most 512 calls", false);
        }
        return Calls.ask(x, call);
    }

    Run due(String call, long want) {
        String behind = toString();
        answers.due(behind + ": " + call, ask(call), want);
        return this;
    }

    /** The answers to 0 and so on, as the last argument of a call. */
    Run dues(String call, long... wants) {
        for (int i = 0; i < wants.length; i++) {
            due(call + " " + i, wants[i]);
        }
        return this;
    }

    /** Every answer that can be had without a change, a line each. */
    List<String> everything() {
        List<String> lines = new ArrayList<>();
        look(lines, "count", 0, 14);
        look(lines, "account", 0, 5);
        look(lines, "front", 0, 3);
        look(lines, "yearsTo", 0, 2);
        look(lines, "ifYears 1", 0, 4);
        look(lines, "ifYears 100", 0, 4);
        look(lines, "fault", 0, 1);
        look(lines, "line");
        look(lines, "steadyMelt");
        for (int year : YEARS_ASKED) {
            look(lines, "ofYear", year, year);
        }
        int bands = (int) ask("count 0");
        for (int band = 0; band < bands; band++) {
            look(lines, "bandInfo " + band, 0, 11);
            look(lines, "stakesIn", band, band);
            int layers = (int) Math.min(ask("bandInfo " + band + " 4"), LAYERS_ASKED);
            for (int index = 0; index < layers; index++) {
                look(lines, "layer " + band + " " + index, 0, 1);
            }
        }
        int stakes = (int) ask("count 2");
        for (int stake = 0; stake < stakes; stake++) {
            look(lines, "stakeInfo " + stake, 0, 5);
        }
        return lines;
    }

    private void look(List<String> lines, String call, int least, int most) {
        for (int what = least; what <= most; what++) {
            look(lines, call + " " + what);
        }
    }

    private void look(List<String> lines, String call) {
        lines.add(call + " is " + ask(call));
    }

    @Override
    public String toString() {
        return calls.size() <= 30 ? calls.toString()
                : calls.subList(0, 10) + ".." + calls.subList(calls.size() - 20, calls.size());
    }
}
