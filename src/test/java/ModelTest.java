import java.util.ArrayList;
import java.util.List;

/** Promises 1 to 24 in long runs: each answer of the class is compared with that of the model. */
public final class ModelTest {
    private static final int RUNS = 2500;
    private static final int CALLS = 512;
    private static final int METHODS = 23;
    // How often a method is called; looks ahead are dear in the model.
    private static final int[] WEIGHTS = {
        30, 22, 12, 60, 40, 20, 12, 25, 25, 35, 25, 6, 50, 15, 26, 12, 3, 6, 16, 50, 2, 14, 12,
    };
    private static final int[] LEAST = {0, 0, 0, 0, 0, 1, 0};
    private static final int[] MOST = {5000, 500, 9000, 500, 5000, 1000000, 50};

    private static final Answers answers = new Answers("ModelTest");
    private static final long[] seen = new long[METHODS];
    private static final long[] errors = new long[METHODS];
    private static long seed = 0;

    public static void main(String[] args) {
        for (int run = 0; run < RUNS && answers.allRight(); run++) {
            seed = 88172645463325252L + 7919L * run;
            oneRun(run);
        }
        // The runs are worth something only if each method was called, with and without errors.
        for (int method = 0; method < METHODS; method++) {
            answers.holds(Calls.NAMES[method] + " was called often", seen[method] > RUNS);
            if (method != 20) {
                answers.holds(Calls.NAMES[method] + " returned errors", errors[method] > RUNS / 20);
            }
            answers.holds(Calls.NAMES[method] + " returned no errors", seen[method] - errors[method] > RUNS / 20);
        }
        answers.end();
    }

    private static int below(int bound) {
        seed ^= seed << 13;
        seed ^= seed >>> 7;
        seed ^= seed << 17;
        return (int) Math.floorMod(seed >>> 11, (long) bound);
    }

    private static int between(int least, int most) {
        return least + below(most - least + 1);
    }

    /** Mostly within a range, often at its edges, sometimes just or far out of it. */
    private static int near(int least, int most) {
        switch (below(24)) {
            case 0: return least;
            case 1: return most;
            case 2: return below(3) == 0 ? least - 1 : least;
            case 3: return below(3) == 0 ? most + 1 : most;
            case 4: return below(20) == 0 ? (below(2) == 0 ? Integer.MIN_VALUE : Integer.MAX_VALUE) : most;
            default: return between(least, most);
        }
    }

    private static void oneRun(int run) {
        IceTongue x = new IceTongue();
        Model model = new Model();
        List<String> calls = new ArrayList<>();
        int style = run % 5;
        int bands = 0;
        int lastHeight = 5000;
        int typed = 0;
        String plan = "";
        for (int i = 0; i < CALLS; i++) {
            int method = draw(style, i);
            int[] a = new int[4];
            if (method == 19) {
                if (typed >= plan.length()) {
                    plan = drawText();
                    typed = 0;
                    if (below(5) > 1) {
                        method = 20;
                    }
                }
                a[0] = method == 19 && below(40) != 0 ? plan.charAt(typed++) : near(32 - below(4), 126 + below(4));
            } else {
                arguments(method, a, style, lastHeight);
            }
            long want = model.call(method, a[0], a[1], a[2], a[3]);
            long got = Calls.ask(x, method, a);
            seen[method]++;
            errors[method] += Calls.isError(want) ? 1 : 0;
            if (method == 1 && want >= 0) {
                bands++;
                lastHeight = a[0];
            }
            if (method == 18) {
                bands = (int) model.call(9, 0, 0, 0, 0);
                lastHeight = bands == 0 ? 5000 : (int) model.call(3, bands - 1, 0, 0, 0);
            }
            String told = Calls.NAMES[method] + "(" + a[0] + ", " + a[1] + ", " + a[2] + ", " + a[3] + ")";
            calls.add(told + " " + want);
            answers.due("run " + run + ", call " + i + ", " + told, got, want);
            if (!answers.allRight()) {
                calls.forEach(System.out::println);
                return;
            }
        }
    }

    private static int draw(int style, int i) {
        // Some bands first, else most calls have nothing to be about.
        if (i < 12 && style != 3) {
            return below(3) == 0 ? 0 : 1;
        }
        // Ways forth and back, on which states are used again and again.
        if (style == 3 && below(3) == 0) {
            return new int[] {18, 18, 18, 1, 14, 0}[below(6)];
        }
        int sum = 0;
        for (int weight : WEIGHTS) {
            sum += weight;
        }
        int drawn = below(sum);
        for (int method = 0; method < METHODS; method++) {
            drawn -= WEIGHTS[method];
            if (drawn < 0) {
                return method;
            }
        }
        return 0;
    }

    private static String drawText() {
        StringBuilder text = new StringBuilder();
        int years = below(5);
        for (int i = 0; i < years; i++) {
            text.append(below(40) == 0 ? 5001 : between(0, 3000)).append(',');
            text.append(below(40) == 0 ? 9001 : between(0, below(2) == 0 ? 9000 : 900)).append(';');
        }
        if (below(6) == 0 && text.length() > 0) {
            text.setCharAt(below(text.length()), "0123456789,;;,x ".charAt(below(16)));
        }
        if (below(8) == 0) {
            text.append("00").append(below(1000)).append(",1;");
        }
        return text.append(years == 0 ? "0,00;" : "").toString();
    }

    private static void arguments(int method, int[] a, int style, int lastHeight) {
        switch (method) {
            case 0:
                a[0] = near(0, 6);
                setting(a, style);
                break;
            case 1:
                a[0] = below(12) == 0 ? near(0, 5000) : Math.max(0, lastHeight - between(style == 2 ? 1 : 0, 900));
                a[1] = below(3) == 0 ? near(100, 400) : near(100, 5000);
                a[2] = near(0, 500);
                a[3] = below(3) == 0 ? near(0, 3000) : near(0, 1000000);
                break;
            case 2:
                a[0] = between(-1, 5);
                a[1] = near(0, 500);
                break;
            case 3:
                a[0] = below(10) == 0 ? near(0, 9) : below(5);
                a[1] = near(0, 11);
                break;
            case 4:
                a[0] = below(10) == 0 ? near(0, 9) : below(5);
                a[1] = below(3) == 0 ? near(0, 40) : near(0, 5);
                a[2] = near(0, 1);
                break;
            case 5:
                a[0] = below(3) == 0 ? near(0, 500) : near(0, 60);
                break;
            case 10:
                a[0] = below(10) == 0 ? near(0, 9) : below(4);
                a[1] = below(4) == 0 ? near(0, 4999) : below(3) == 0 ? near(0, 10) : near(0, 300);
                a[2] = near(1, 10000);
                break;
            case 14:
                a[0] = below(4) == 0 ? near(1, 100) : near(1, style == 4 ? 30 : 4);
                break;
            case 15:
                a[0] = below(4) == 0 ? near(1, 100) : near(1, 12);
                a[1] = near(0, 4);
                break;
            default:
                a[0] = near(0, mostOf(method));
                a[1] = near(0, 5);
                break;
        }
    }

    private static int mostOf(int method) {
        switch (method) {
            case 7: return 3;
            case 8: return 5;
            case 9: return 14;
            case 11: return 5;
            case 12: return 5;
            case 13: return 4;
            case 16: return 2;
            default: return 1;
        }
    }

    private static void setting(int[] a, int style) {
        int what = Math.max(0, Math.min(6, a[0]));
        a[1] = near(LEAST[what], MOST[what]);
        // Small pieces and short rests, or nothing calves; melts near the snow, or all ice melts.
        if (what == 5 && below(4) > 0) {
            a[1] = near(1, below(2) == 0 ? 20 : 3000);
        } else if (what == 6 && below(3) > 0) {
            a[1] = near(0, 3);
        } else if (what == 2 && below(3) > 0) {
            a[1] = near(0, style == 1 ? 300 : 2500);
        } else if (what == 0 && style == 1) {
            a[1] = near(0, 300);
        } else if ((what == 1 || what == 3) && below(2) == 0) {
            a[1] = near(0, style == 1 ? 10 : 60);
        }
    }
}
