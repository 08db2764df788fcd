import java.util.Arrays;

/** The calls of the face, by their number from 0 to 22 in its order, or written as "band 3000 1000 100 5000". */
final class Calls {
    static final int INVALID = -2000000001;
    static final int NOT_POSSIBLE = -2000000002;
    static final int LIMIT = -2000000003;
    static final int NOT_FOUND = -2000000004;

    static final String[] NAMES = {
        "set", "band", "creep", "bandInfo", "layer", "ofYear", "line", "front", "account", "count", "stake", "pull",
        "stakeInfo", "stakesIn", "years", "ifYears", "yearsTo", "steadyMelt", "undo", "type", "clearText", "fault",
        "live",
    };
    private static final int[] TAKEN = {2, 4, 2, 2, 3, 1, 0, 1, 1, 1, 3, 1, 2, 1, 1, 2, 1, 0, 0, 1, 0, 1, 0};

    private Calls() {
    }

    static boolean isError(long answer) {
        return answer <= INVALID && answer >= NOT_FOUND;
    }

    static long ask(IceTongue x, int method, int[] a) {
        switch (method) {
            case 0: return x.set(a[0], a[1]);
            case 1: return x.band(a[0], a[1], a[2], a[3]);
            case 2: return x.creep(a[0], a[1]);
            case 3: return x.bandInfo(a[0], a[1]);
            case 4: return x.layer(a[0], a[1], a[2]);
            case 5: return x.ofYear(a[0]);
            case 6: return x.line();
            case 7: return x.front(a[0]);
            case 8: return x.account(a[0]);
            case 9: return x.count(a[0]);
            case 10: return x.stake(a[0], a[1], a[2]);
            case 11: return x.pull(a[0]);
            case 12: return x.stakeInfo(a[0], a[1]);
            case 13: return x.stakesIn(a[0]);
            case 14: return x.years(a[0]);
            case 15: return x.ifYears(a[0], a[1]);
            case 16: return x.yearsTo(a[0]);
            case 17: return x.steadyMelt();
            case 18: return x.undo();
            case 19: return x.type(a[0]);
            case 20: return x.clearText();
            case 21: return x.fault(a[0]);
            default: return x.live();
        }
    }

    /** MIN and MAX stand for the least and the greatest int. */
    static long ask(IceTongue x, String call) {
        String[] words = call.split(" ");
        int method = Arrays.asList(NAMES).indexOf(words[0]);
        // A test that is written wrongly must not pass as one that is refused.
        if (method < 0 || words.length != TAKEN[method] + 1) {
            throw new IllegalArgumentException("no such call: " + call);
        }
        int[] arguments = new int[4];
        for (int i = 1; i < words.length; i++) {
            arguments[i - 1] = number(words[i]);
        }
        return ask(x, method, arguments);
    }

    private static int number(String word) {
        switch (word) {
            case "MIN": return Integer.MIN_VALUE;
            case "MAX": return Integer.MAX_VALUE;
            default: return Integer.parseInt(word);
        }
    }
}
