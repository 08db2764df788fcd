/** The edges that "What it is" and "Terms" name, but for the errors; a comment tells the sentence. */
public final class TermsEdgesTest {
    private static final int LIMIT = Calls.LIMIT;
    private static final int NOT_FOUND = Calls.NOT_FOUND;

    private static final Answers answers = new Answers("TermsEdgesTest");

    public static void main(String[] args) {
        lastCallOfAnObject();
        mostBands();
        amountsAboveZero();
        ascendingYears();
        iceIsTheSumOfLayers();
        yearsAtFirst();
        iceOfAnAddedBand();
        firstSettings();
        divisionsDown();
        snowAndMeltNotBelowZero();
        greatestSnowAndMelt();
        yearGrows();
        snowOfAYear();
        meltFromTheLatestOn();
        meltOfAllIce();
        shareOfIce();
        shareOfGreatIce();
        shareFromTheOldestOn();
        lastOneToTheFront();
        allGiveFirst();
        joinsLayersOfTheSameYears();
        getsWhereAllHasMelted();
        answers.end();
    }

    private static Run run(String... calls) {
        return new Run(answers, calls);
    }

    private static Run flat(int snow, int melt, String... calls) {
        return Start.flat(answers, snow, melt, calls).run();
    }

    // "An object is used for at most 512 calls after it has been made"
    private static void lastCallOfAnObject() {
        Run changes = run();
        for (int i = 1; i <= 511; i++) {
            changes.due("set 0 " + i, i == 1 ? 1000 : i - 1);
        }
        changes.due("undo", 3);
        Run signs = run();
        for (int i = 1; i <= 512; i++) {
            signs.due("type 48", i <= 60 ? i : LIMIT);
        }
        Run years = run("set 0 1", "set 1 0", "set 2 0", "band 3000 100 0 0");
        for (int i = 1; i <= 506; i++) {
            years.due("years 1", i <= 500 ? 0 : LIMIT);
        }
        years.due("account 1", 500);
        years.due("ifYears 100 0", 600);
        Run looks = run("band 2500 100 500 1000000", "set 5 1000000");
        for (int i = 1; i <= 510; i++) {
            looks.due("yearsTo 0", NOT_FOUND);
        }
    }

    // "There are at most 10 bands, numbered from 0 from the highest one down."
    private static void mostBands() {
        Run run = run();
        for (int i = 0; i < 10; i++) {
            run.due("count 0", i).due("bandInfo " + i + " 0", Calls.INVALID);
            run.due("band " + (5000 - 7 * i) + " " + (100 + i) + " " + i + " 0", i);
        }
        for (int i = 0; i < 10; i++) {
            run.dues("bandInfo " + i, 5000 - 7 * i, 100 + i, i);
        }
        run.due("band 0 100 0 0", LIMIT).due("count 0", 10).due("bandInfo 10 0", Calls.INVALID);
        // With the last band gone there is room for one again.
        run.due("undo", 3).due("count 0", 9).due("band 0 100 0 0", 9).due("bandInfo 9 0", 0);
    }

    // "a layer has a year and an amount above 0"
    private static void amountsAboveZero() {
        run("band 3000 100 0 0").due("bandInfo 0 4", 0).due("layer 0 0 0", NOT_FOUND).due("layer 0 0 1", NOT_FOUND)
                .due("count 4", 0).due("count 5", 0);
        run("band 3000 100 0 1").due("bandInfo 0 4", 1).due("layer 0 0 0", 0).due("layer 0 0 1", 1)
                .due("layer 0 1 0", NOT_FOUND).due("count 4", 1).due("count 5", 1);
        // Snow of 5 that melts wholly leaves no layer of its year, and of 6 it leaves one.
        flat(5, 5, "band 3000 100 0 3", "years 1").due("bandInfo 0 4", 1).due("bandInfo 0 6", 0)
                .due("layer 0 1 0", NOT_FOUND).due("count 5", 1);
        flat(6, 5, "band 3000 100 0 3", "years 1").due("bandInfo 0 4", 2).due("bandInfo 0 6", 1)
                .due("layer 0 1 1", 1).due("count 5", 2);
        // The oldest layer is given away wholly, or but for 1.
        flat(3, 0, "band 3000 100 500 3", "years 1").due("bandInfo 0 4", 1).due("bandInfo 0 5", 1)
                .due("layer 0 0 1", 3);
        flat(2, 0, "band 3000 100 500 3", "years 1").due("bandInfo 0 4", 2).due("bandInfo 0 5", 0)
                .due("layer 0 0 1", 1).due("layer 0 1 1", 2);
        // A layer in the middle may be missing.
        flat(4, 0, "band 3000 100 0 3", "years 1", "set 0 0", "years 1", "set 0 4", "years 1")
                .due("bandInfo 0 4", 3).due("layer 0 0 0", 0).due("layer 0 1 0", 1).due("layer 0 2 0", 3)
                .due("layer 0 3 0", NOT_FOUND).due("ofYear 2", 0);
    }

    // "layers of a band lie by ascending years, the oldest one at the bottom"
    private static void ascendingYears() {
        // 100 of year 0 become 50 and 25; 12 of them come into a band that has a layer of year 2 already.
        Run run = flat(0, 0, "band 3000 1000 500 100", "years 2", "band 2000 1000 0 7", "years 1");
        run.due("bandInfo 1 4", 2).due("bandInfo 1 5", 0).due("bandInfo 1 6", 2);
        run.due("layer 1 0 0", 0).due("layer 1 0 1", 12).due("layer 1 1 0", 2).due("layer 1 1 1", 7);
        Run many = flat(1, 0, "band 3000 1000 0 5", "until 500");
        many.due("bandInfo 0 4", 501);
        for (int index = 0; index <= 500; index += 50) {
            many.due("layer 0 " + index + " 0", index).due("layer 0 " + index + " 1", index == 0 ? 5 : 1);
        }
        many.due("layer 0 501 0", NOT_FOUND);
    }

    // "The ice of a band is the sum of its layers."
    private static void iceIsTheSumOfLayers() {
        run("band 3000 1000 0 0").due("bandInfo 0 3", 0);
        flat(10, 3, "band 3000 1000 0 100", "years 4").due("bandInfo 0 3", 128)
                .due("layer 0 0 1", 100).due("layer 0 1 1", 7).due("layer 0 4 1", 7);
    }

    // "Y years have gone by, at first 0."
    private static void yearsAtFirst() {
        run().due("count 1", 0);
        run("band 3000 1000 0 0", "years 1").due("count 1", 1).due("undo", 1).due("count 1", 0);
    }

    // "The ice with which a band is added is its layer of the year Y."
    private static void iceOfAnAddedBand() {
        for (int year : new int[] {0, 1, 499, 500}) {
            Run run = flat(0, 0, "band 3000 1000 0 0", "until " + year, "band 2000 1000 0 9");
            run.due("bandInfo 1 4", 1).due("bandInfo 1 5", year).due("bandInfo 1 6", year);
            run.due("layer 1 0 0", year).due("layer 1 0 1", 9).due("ofYear " + year, 9).due("account 5", 9);
        }
    }

    // "The settings are (in parentheses: range; first value)"
    private static void firstSettings() {
        run().due("set 0 0", 1000).due("set 1 0", 50).due("set 2 0", 1500).due("set 3 0", 100).due("set 4 0", 2500)
                .due("set 5 1", 500).due("set 6 0", 2)
                .due("set 0 5000", 0).due("set 1 500", 0).due("set 2 9000", 0).due("set 3 500", 0)
                .due("set 4 5000", 0).due("set 5 1000000", 1).due("set 6 50", 0)
                .due("count 6", 5000).due("count 7", 500).due("count 8", 9000).due("count 9", 500)
                .due("count 10", 5000).due("count 11", 1000000).due("count 12", 50);
    }

    // "divisions are rounded down (toward negative infinity)"
    private static void divisionsDown() {
        Run run = run("set 0 100", "set 1 1", "set 2 100", "set 3 1");
        int[] heights = {2600, 2599, 2501, 2500, 2499, 2401, 2400, 2399};
        int[] more = {1, 0, 0, 0, -1, -1, -1, -2};
        for (int i = 0; i < heights.length; i++) {
            run.due("band " + heights[i] + " 100 0 0", i);
            run.due("bandInfo " + i + " 7", 100 + more[i]).due("bandInfo " + i + " 8", 100 - more[i]);
        }
    }

    // "both are 0 if they would be less"
    private static void snowAndMeltNotBelowZero() {
        Start start = new Start(answers, "set 1 100", "set 3 100", "band 2501 100 0 0", "band 2500 100 0 0",
                "band 2499 100 0 0");
        int[] snow0 = {1, 0, 0};
        int[] snow1 = {2, 1, 0};
        int[] melt0 = {0, 0, 1};
        int[] melt1 = {0, 1, 2};
        for (int i = 0; i < 3; i++) {
            start.with("set 0 0").due("bandInfo " + i + " 7", snow0[i]);
            start.with("set 0 1").due("bandInfo " + i + " 7", snow1[i]);
            start.with("set 2 0").due("bandInfo " + i + " 8", melt0[i]);
            start.with("set 2 1").due("bandInfo " + i + " 8", melt1[i]);
        }
        // What would be less than 0 brings nothing in a year either: no snow is taken away, no ice comes by melt.
        run("set 0 0", "set 2 0", "band 0 100 0 5", "set 3 0", "years 1").due("account 1", 0).due("bandInfo 0 3", 5);
        run("set 0 0", "set 1 0", "set 2 0", "band 5000 100 0 5", "years 1").due("account 2", 0)
                .due("bandInfo 0 9", 0).due("bandInfo 0 3", 5);
    }

    private static void greatestSnowAndMelt() {
        Run high = run("set 0 5000", "set 1 500", "set 4 0", "set 3 500", "band 5000 100 0 0");
        high.due("bandInfo 0 7", 30000).due("bandInfo 0 8", 0);
        high.due("years 1", 0).due("bandInfo 0 3", 30000).due("ofYear 1", 30000);
        Run low = run("set 2 9000", "set 1 500", "set 4 5000", "set 3 500", "band 0 100 0 1000000");
        low.due("bandInfo 0 7", 0).due("bandInfo 0 8", 34000);
        low.due("years 1", 0).due("bandInfo 0 3", 966000).due("bandInfo 0 9", 34000);
        low.due("years 28", 0).due("bandInfo 0 3", 14000).due("years 1", 0).due("bandInfo 0 9", 14000);
    }

    // "1. Y grows by 1."
    private static void yearGrows() {
        flat(3, 0, "band 3000 100 0 0", "years 1").due("count 1", 1).due("layer 0 0 0", 1);
        flat(3, 0, "band 3000 100 0 0", "until 499", "years 1").due("count 1", 500).due("bandInfo 0 6", 500);
    }

    // "Each band gets its snow as its layer of the year Y (none if it is 0)"
    private static void snowOfAYear() {
        flat(0, 0, "band 3000 100 0 0", "years 3").due("bandInfo 0 4", 0).due("account 1", 0).due("count 5", 0);
        flat(1, 0, "band 3000 100 0 0", "years 3").due("bandInfo 0 4", 3).due("account 1", 3).due("count 5", 3);
        flat(1, 0, "band 3000 100 0 0", "band 2999 100 0 0", "years 3").due("count 4", 6).due("account 1", 6)
                .due("ofYear 3", 2).due("ofYear 0", 0);
    }

    // "then its melt is taken from its layers, from the latest one on"
    private static void meltFromTheLatestOn() {
        Start start = Start.flat(answers, 4, 0, "band 3000 100 0 10", "years 2", "set 0 0");
        long[][] left = {{10, 4, 4}, {10, 4, 3}, {10, 4, 1}, {10, 4, 0}, {10, 3, 0}, {10, 0, 0}, {9, 0, 0}, {1, 0, 0}};
        int[] melts = {0, 1, 3, 4, 5, 8, 9, 17};
        for (int i = 0; i < melts.length; i++) {
            Run run = start.with("set 2 " + melts[i], "years 1").run();
            run.dues("ofYear", left[i]).due("bandInfo 0 9", melts[i]).due("account 2", melts[i]);
            int layers = (left[i][1] > 0 ? 2 : 1) + (left[i][2] > 0 ? 1 : 0);
            run.due("bandInfo 0 4", layers).due("bandInfo 0 6", layers - 1).due("bandInfo 0 5", 0);
            run.due("bandInfo 0 3", 18 - melts[i]);
        }
        // The snow of the year is the first that melts.
        flat(4, 3, "band 3000 100 0 10", "years 1").dues("ofYear", 10, 1);
        flat(4, 5, "band 3000 100 0 10", "years 1").dues("ofYear", 9, 0);
    }

    // "or all its ice, if there is not so much"
    private static void meltOfAllIce() {
        for (int melt : new int[] {14, 15, 9000}) {
            Run run = flat(4, melt, "band 3000 100 500 10", "years 1");
            run.due("bandInfo 0 3", 0).due("bandInfo 0 4", 0).due("bandInfo 0 5", NOT_FOUND);
            run.due("bandInfo 0 6", NOT_FOUND).due("bandInfo 0 9", 14).due("bandInfo 0 10", 0);
            run.due("account 1", 4).due("account 2", 14).due("account 4", 0).due("account 5", 0);
            // Without ice it goes on: only the snow of the year can melt.
            run.due("years 1", 0).due("bandInfo 0 9", 4).due("account 2", 18);
        }
        flat(4, 13, "band 3000 100 500 10", "years 1").due("bandInfo 0 3", 1).due("bandInfo 0 9", 13);
        flat(0, 5, "band 3000 100 500 0", "years 1").due("bandInfo 0 9", 0).due("account 2", 0);
    }

    // "Each band gives ice * creep / 1000 of its ice"
    private static void shareOfIce() {
        int[][] cases = {
            {0, 500, 0}, {1, 500, 0}, {2, 500, 1}, {3, 500, 1}, {999, 1, 0}, {1000, 1, 1}, {1999, 1, 1}, {2000, 1, 2},
            {1000000, 0, 0}, {1000000, 1, 1000}, {1000000, 500, 500000}, {999999, 499, 498999},
        };
        for (int[] c : cases) {
            Run run = flat(0, 0, "band 3000 100 " + c[1] + " " + c[0], "band 2000 100 0 0", "years 1");
            run.due("bandInfo 0 10", c[2]).due("bandInfo 0 3", c[0] - c[2]);
            run.due("bandInfo 1 11", c[2]).due("bandInfo 1 3", c[2]).due("bandInfo 1 10", 0);
        }
        // It is a share of what there is behind snow and melt: 10 + 6 - 4.
        flat(6, 4, "band 3000 100 500 10", "years 1").due("bandInfo 0 10", 6);
    }

    /** Ice of more than 4294967 times a creep of 500 is more than an int. */
    private static void shareOfGreatIce() {
        Run run = flat(0, 0);
        for (int i = 0; i < 10; i++) {
            run.due("band " + (3000 - i) + " 100 " + (i == 9 ? 0 : 500) + " 1000000", i);
        }
        run.due("years 100", 0);
        long ice = run.ask("bandInfo 9 3");
        answers.holds("nearly all ice is in the last band: " + ice, ice > 9999900 && ice <= 10000000);
        run.due("creep 9 500", 0).due("set 5 1000000", 500).due("years 1", ice / 2 / 1000000);
        run.due("bandInfo 9 10", ice / 2).due("front 0", ice / 2 % 1000000).due("front 2", ice / 2 / 1000000);
        run.due("account 3", ice / 2 / 1000000 * 1000000).due("account 4", 10000000 - ice / 2 / 1000000 * 1000000);
        run.due("account 5", 10000000 - ice / 2 / 1000000 * 1000000);
    }

    // "from its oldest layers on"
    private static void shareFromTheOldestOn() {
        // 6 of year 0, 4 of year 1 and 10 of year 2; the band gives 20 * creep / 1000.
        Start start = Start.flat(answers, 4, 0, "band 3000 100 0 6", "years 1", "set 0 10", "years 1", "set 0 0",
                "band 2000 100 0 0");
        long[][] left = {{6, 4, 10}, {5, 4, 10}, {1, 4, 10}, {0, 4, 10}, {0, 3, 10}, {0, 0, 10}};
        int[] shares = {0, 1, 5, 6, 7, 10};
        for (int i = 0; i < shares.length; i++) {
            Run run = start.with("creep 0 " + shares[i] * 50, "years 1").run();
            run.due("bandInfo 0 10", shares[i]).due("bandInfo 1 3", shares[i]);
            long[] amounts = {6, 4, 10};
            int layers = 0;
            int got = 0;
            for (int year = 0; year < 3; year++) {
                if (left[i][year] > 0) {
                    run.due("layer 0 " + layers + " 0", year).due("layer 0 " + layers + " 1", left[i][year]);
                    layers++;
                }
                if (left[i][year] < amounts[year]) {
                    run.due("layer 1 " + got + " 0", year).due("layer 1 " + got + " 1", amounts[year] - left[i][year]);
                    got++;
                }
            }
            run.due("bandInfo 0 4", layers).due("bandInfo 1 4", got).due("bandInfo 0 6", 2);
        }
    }

    // "the last one to the front"
    private static void lastOneToTheFront() {
        flat(0, 0, "band 3000 100 500 10", "years 1").due("front 0", 5).due("bandInfo 0 3", 5).due("bandInfo 0 10", 5);
        flat(0, 0, "band 3000 100 500 10", "band 2000 100 500 0", "years 1").due("front 0", 0).due("bandInfo 1 3", 5);
        flat(0, 0, "band 3000 100 500 0", "band 2000 100 500 10", "years 1").due("front 0", 5).due("bandInfo 0 3", 0);
        // A band that is added below gets what went to the front before.
        flat(0, 0, "band 3000 100 500 20", "years 1", "band 2000 100 500 0", "years 1").due("front 0", 10)
                .due("bandInfo 1 3", 5).due("bandInfo 1 11", 5);
    }

    // "all give first, then all get"
    private static void allGiveFirst() {
        Run run = flat(0, 0);
        for (int i = 0; i < 10; i++) {
            run.due("band " + (3000 - i) + " 100 500 " + (i == 0 ? 1024 : 0), i);
        }
        // What is given in a year is given on in the next one at the earliest.
        for (int year = 1; year <= 10; year++) {
            run.due("years 1", 0).due(year < 10 ? "bandInfo " + year + " 3" : "front 0", 1024 >> year);
        }
    }

    // "what a band gets joins its layers of the same years"
    private static void joinsLayersOfTheSameYears() {
        Run run = flat(8, 0, "band 3000 100 500 100", "band 2000 100 0 7", "years 1");
        // 54 of 108 are given, all of year 0.
        run.due("bandInfo 1 4", 2).due("layer 1 0 0", 0).due("layer 1 0 1", 61).due("layer 1 1 1", 8);
        run.due("ofYear 0", 107).due("ofYear 1", 16).due("count 4", 4).due("count 5", 2);
        // Then 31 of 62, all of year 0; then 19 of 39: 15 of year 0 and 4 of year 1.
        run.due("years 1", 0).due("layer 1 0 1", 92).due("bandInfo 1 4", 3);
        run.due("years 1", 0).due("layer 1 0 1", 107).due("layer 1 1 1", 12).due("bandInfo 1 4", 4);
        run.due("bandInfo 0 5", 1).due("layer 0 0 1", 4).due("ofYear 0", 107);
        run.due("undo", 3).due("layer 1 0 1", 92);
    }

    /** A band whose own layers have all melted has just those that it gets. */
    private static void getsWhereAllHasMelted() {
        // At 3000 nothing melts, at 2000 all: 52 of 105 are given, of year 0.
        Run run = run("set 0 5", "set 1 0", "set 2 500", "band 3000 100 500 100", "band 2000 100 0 10", "years 1");
        run.dues("bandInfo 1", 2000, 100, 0, 52, 1, 0, 0, 5, 1000, 15, 0, 52);
        run.due("layer 1 0 0", 0).due("layer 1 0 1", 52).due("layer 1 1 0", NOT_FOUND).due("ofYear 1", 5);
        // 53 + 5: 29 of year 0 come, where 52 and the snow have melted.
        run.due("years 1", 0).due("bandInfo 1 9", 57).due("bandInfo 1 5", 0).due("bandInfo 1 6", 0);
        run.due("bandInfo 1 3", 29).due("layer 1 0 1", 29);
    }
}
