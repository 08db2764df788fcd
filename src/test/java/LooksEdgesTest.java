/** Promises 17 to 19 at their edges: years that are looked at, and the steady melt. */
public final class LooksEdgesTest {
    private static final int NOT_FOUND = Calls.NOT_FOUND;

    private static final Answers answers = new Answers("LooksEdgesTest");

    public static void main(String[] args) {
        oneYearAndAHundred();
        onlyWhatComesInThem();
        stakesThatStandThen();
        oldestYearOfAllLayers();
        noLayersThen();
        greaterThan500();
        firstAndLastYearOfCalving();
        firstAndLastYearOfIce();
        firstAndLastYearOfStakes();
        yearsToFromTheLastYear();
        forTheFirstTime();
        ifTheSettingsStay();
        leastSteadyMelt();
        greatestSteadyMelt();
        atLeastTheirMeltTogether();
        byTheOtherSettings();
        eachSteadyMelt();
        answers.end();
    }

    private static Run flat(int snow, int melt, String... calls) {
        return Start.flat(answers, snow, melt, calls).run();
    }

    // "years: 1 to 100"
    private static void oneYearAndAHundred() {
        flat(7, 2, "band 3000 100 0 9").due("ifYears 1 0", 14).due("ifYears 2 0", 19).due("ifYears 99 0", 504)
                .due("ifYears 100 0", 509).due("ifYears 1 2", 2).due("ifYears 100 2", 200).due("account 4", 9);
    }

    // "1: pieces that calve in them; 2: ice that melts in them", "0: all ice of bands and front then"
    private static void onlyWhatComesInThem() {
        // 16 of 32 have calved and 3 of 10 have melted; 8 and 3 come in the next year.
        Run run = flat(0, 3, "set 5 1", "set 6 0", "band 3000 100 0 10", "band 2000 100 500 35", "years 1");
        run.due("front 2", 16).due("account 2", 6);
        run.due("ifYears 1 1", 6).due("ifYears 1 2", 6).due("ifYears 1 0", 45 - 16 - 6 - 6 - 6);
        run.due("ifYears 1 1", 6).due("front 2", 16).due("account 2", 6).due("years 1", 6).due("account 2", 12);
        // Ice of the front counts: 10 of 20 go to it and stay there.
        flat(0, 0, "band 3000 100 500 20").due("ifYears 1 0", 20).due("ifYears 100 0", 20).due("ifYears 1 1", 0);
    }

    private static void stakesThatStandThen() {
        Run run = flat(0, 10, "set 5 1000000", "band 3000 1000 100 90000");
        run.due("ifYears 100 3", 0);
        for (int i = 0; i < 6; i++) {
            run.due("stake 0 " + (400 + 100 * i) + " 1000", i);
        }
        // From 900 it falls in the first year, from 400 in the sixth.
        for (int years = 1; years <= 7; years++) {
            run.due("ifYears " + years + " 3", Math.max(0, 6 - years));
        }
        run.due("count 3", 6);
        // Those that stand no more before do not stand then.
        run.due("years 2", 0).due("ifYears 1 3", 3).due("ifYears 4 3", 0);
    }

    // "4: the oldest year of all layers then"
    private static void oldestYearOfAllLayers() {
        flat(0, 0, "band 3000 100 0 5", "years 3", "band 2000 100 0 5").due("ifYears 1 4", 0);
        flat(0, 0, "band 3000 100 0 0", "years 3", "band 2000 100 0 5").due("ifYears 1 4", 3);
        flat(0, 0, "band 3000 100 0 0", "band 2000 100 0 5", "years 3").due("ifYears 1 4", 0);
        flat(0, 0, "band 3000 100 0 0", "years 3", "band 2000 100 0 5", "years 1", "set 0 2").due("ifYears 9 4", 3);
        // The older layer lies in the band below: 5 of year 0 creep there wholly, in the end all but 1.
        flat(1, 0, "band 3000 100 500 5", "band 2000 100 0 0").due("ifYears 100 4", 0);
        // A layer is there until it has melted wholly; of the snow, 1 is left in each year.
        flat(0, 7, "band 3000 100 0 14").due("ifYears 1 4", 0).due("ifYears 2 4", NOT_FOUND);
        flat(8, 7, "band 3000 100 0 0").due("ifYears 1 4", 1).due("ifYears 100 4", 1);
    }

    // "NOT_FOUND for 4 if there are no layers then"
    private static void noLayersThen() {
        flat(0, 0, "band 3000 100 0 0").due("ifYears 1 4", NOT_FOUND).due("ifYears 100 4", NOT_FOUND);
        flat(5, 5, "band 3000 100 0 0").due("ifYears 1 4", NOT_FOUND).due("ifYears 100 4", NOT_FOUND);
        // Ice of the front is of no year.
        flat(0, 1, "band 3000 100 500 3").due("ifYears 1 4", 0).due("ifYears 2 4", NOT_FOUND).due("ifYears 2 0", 1);
    }

    // "(Y may become greater than 500)"
    private static void greaterThan500() {
        Run run = flat(1, 0, "band 3000 100 0 0", "until 500");
        run.due("ifYears 1 0", 501).due("ifYears 100 0", 600).due("ifYears 100 4", 1);
        run.due("set 2 9000", 0).due("ifYears 1 4", NOT_FOUND).due("set 2 0", 9000).due("creep 0 500", 0);
        // In the end it has 3 and gives 1 of them each year: what is left is of the latest two years.
        run.due("ifYears 100 4", 599).due("ifYears 100 0", 600 - 500 * run.ask("ifYears 100 1"));
        run.due("count 1", 500).due("years 1", Calls.LIMIT).due("ofYear 500", 1).due("account 4", 500);
        flat(1, 0, "band 3000 100 0 0", "until 499").due("ifYears 1 0", 500).due("ifYears 2 0", 501);
    }

    // "0: the front calves in that year", "Returns the years, 1 to 300", "NOT_FOUND if .. not so within 300 years"
    private static void firstAndLastYearOfCalving() {
        int[][] cases = {{10, 1}, {11, 2}, {20, 2}, {2990, 299}, {2991, 300}, {3000, 300}, {3001, NOT_FOUND}};
        for (int[] c : cases) {
            // The band gives 10 of 20 each year.
            flat(10, 0, "band 3000 100 500 10", "set 5 " + c[0]).due("yearsTo 0", c[1]).due("front 2", 0);
        }
        // It rests: the year of the calving itself has passed.
        flat(10, 0, "band 3000 100 500 10", "set 5 10", "set 6 50", "years 1").due("yearsTo 0", 51);
        flat(10, 0, "band 3000 100 500 10", "set 5 10", "set 6 0", "years 1").due("yearsTo 0", 1);
    }

    // "1: the bands have no ice behind it"
    private static void firstAndLastYearOfIce() {
        int[][] cases = {{0, 1}, {1, 1}, {10, 1}, {11, 2}, {2990, 299}, {2991, 300}, {3000, 300}, {3001, NOT_FOUND}};
        for (int[] c : cases) {
            flat(0, 10, "band 3000 100 0 " + c[0]).due("yearsTo 1", c[1]);
            flat(0, 10, "band 3000 100 0 " + c[0], "band 2000 100 0 3").due("yearsTo 1", c[1]);
            flat(0, 10, "band 3000 100 0 3", "band 2000 100 0 " + c[0]).due("yearsTo 1", c[1]);
        }
        // Of the bands: the front may have ice, and the year's snow is there before it melts.
        flat(0, 1, "band 3000 100 500 3").due("yearsTo 1", 2).due("ifYears 2 0", 1);
        flat(10, 10, "band 3000 100 0 0").due("yearsTo 1", 1);
        flat(11, 10, "band 3000 100 0 0").due("yearsTo 1", NOT_FOUND);
    }

    // "2: no stake stands behind it"
    private static void firstAndLastYearOfStakes() {
        flat(0, 10, "band 3000 100 0 9000").due("yearsTo 2", 1);
        int[][] cases = {{1, 1}, {9, 1}, {10, 2}, {2989, 299}, {2990, 300}, {2999, 300}, {3000, NOT_FOUND}};
        for (int[] c : cases) {
            flat(0, 10, "band 3000 100 0 9000", "stake 0 0 " + c[0]).due("yearsTo 2", c[1]).due("count 3", 1);
            flat(0, 10, "band 3000 100 0 9000", "stake 0 0 " + c[0], "stake 0 1 1").due("yearsTo 2", c[1]);
        }
        // 300 years of 1 each: from 700 it falls, or rides into the band below; from 699 it stands at the last place.
        flat(0, 0, "band 3000 1000 1 9000", "band 2000 5000 0 0", "creep 1 0", "stake 0 701 1")
                .due("yearsTo 2", NOT_FOUND);
        flat(0, 0, "band 3000 1000 1 9000", "stake 0 700 1").due("yearsTo 2", 300);
        flat(0, 0, "band 3000 1000 1 9000", "stake 0 699 1").due("yearsTo 2", NOT_FOUND);
        flat(0, 0, "band 3000 1000 1 9000", "stake 0 999 1").due("yearsTo 2", 1);
    }

    /** The look ahead is as long in the last year: up to the year 800. */
    private static void yearsToFromTheLastYear() {
        flat(0, 10, "band 3000 100 0 0", "until 500", "band 2000 100 0 3000").due("yearsTo 1", 300);
        flat(0, 10, "band 3000 100 0 0", "until 500", "band 2000 100 0 3001").due("yearsTo 1", NOT_FOUND);
        // With 1 of snow and 11 of melt it is as far; the snow of the last year is needed, too.
        Start snow = Start.flat(answers, 1, 11, "band 3000 100 0 0", "until 500");
        snow.with("band 2000 100 0 3000").due("yearsTo 1", 300);
        snow.with("band 2000 100 0 3001").due("yearsTo 1", NOT_FOUND);
        Start calving = Start.flat(answers, 10, 0, "band 3000 100 500 10", "set 5 1000000", "until 500");
        // 5000 lie at the front by then.
        calving.due("front 0", 5000).with("set 5 8000").due("yearsTo 0", 300);
        calving.with("set 5 8001").due("yearsTo 0", NOT_FOUND).with("set 5 5010").due("yearsTo 0", 1);
        Start stakes = Start.flat(answers, 0, 1, "band 3000 100 0 1000000", "until 500");
        stakes.with("stake 0 0 299").due("yearsTo 2", 300);
        stakes.with("stake 0 0 300").due("yearsTo 2", NOT_FOUND);
    }

    // "after how many years something would be so for the first time"
    private static void forTheFirstTime() {
        // It calves in the years 1, 4 and so on.
        Run run = flat(10, 0, "band 3000 100 500 10", "set 5 10");
        run.due("yearsTo 0", 1).play("years 1").due("yearsTo 0", 3).play("years 1").due("yearsTo 0", 2);
        run.play("years 1").due("yearsTo 0", 1).play("years 1").due("yearsTo 0", 3);
        // So already, and so again behind the next year.
        flat(0, 10, "band 3000 100 0 0", "years 9").due("yearsTo 1", 1).due("yearsTo 2", 1);
    }

    private static void ifTheSettingsStay() {
        Run run = flat(0, 10, "band 3000 100 0 100").due("yearsTo 1", 10);
        run.due("set 2 9", 10).due("yearsTo 1", 12).due("undo", 3).due("yearsTo 1", 10).due("years 4", 0);
        run.due("yearsTo 1", 6).due("set 0 10", 0).due("yearsTo 1", NOT_FOUND).due("count 6", 10);
    }

    // "Returns the melt, 0 to 9000; .. NOT_FOUND if there is none."
    private static void leastSteadyMelt() {
        flat(0, 9, "band 3000 100 0 0").due("steadyMelt", 0);
        flat(1, 9, "band 3000 100 0 0").due("steadyMelt", 1);
        // At 2400 the melt is the setting and 5 more.
        Run run = flat(5, 9, "band 2400 100 0 0", "set 3 5");
        run.due("steadyMelt", 0).due("set 0 6", 5).due("steadyMelt", 1).due("set 0 4", 6).due("steadyMelt", NOT_FOUND);
        run.due("set 0 0", 4).due("steadyMelt", NOT_FOUND).due("count 8", 9);
    }

    private static void greatestSteadyMelt() {
        // At 5000 the snow is 5000 and 25 times the growth.
        Run run = new Run(answers, "set 0 5000", "set 3 0", "set 1 160", "band 5000 100 0 0");
        run.due("bandInfo 0 7", 9000).due("steadyMelt", 9000).due("set 0 4999", 5000).due("steadyMelt", 8999);
        run.due("set 1 161", 160).due("bandInfo 0 7", 9024).due("steadyMelt", 9000);
        run.due("set 1 500", 161).due("set 3 500", 0).due("steadyMelt", 9000);
        // The melt is 3 less than the setting there.
        Run less = flat(8, 0, "set 3 1", "set 4 0", "band 399 100 0 0");
        less.due("steadyMelt", 11).due("set 0 5000", 8).due("steadyMelt", 5003);
    }

    // "the snow of all bands together would be at least their melt together"
    private static void atLeastTheirMeltTogether() {
        // Two bands, of which the second melts 20 more than the first: 2 * m + 20 against 2 * snow.
        Run run = flat(100, 0, "set 3 2", "band 2500 100 0 0", "band 1500 100 0 0");
        run.due("steadyMelt", 90).due("set 3 1", 2).due("steadyMelt", 95).due("set 3 100", 1)
                .due("steadyMelt", NOT_FOUND);
        run.due("set 3 20", 100).due("steadyMelt", 0).due("set 3 21", 20).due("steadyMelt", NOT_FOUND);
        // 10 bands whose snow is 10 less from one to the next: 1000 to 910, 955 in the middle.
        Run ten = new Run(answers, "set 3 0", "set 1 10");
        for (int i = 0; i < 10; i++) {
            ten.due("band " + (2500 - 100 * i) + " 100 0 0", i);
        }
        ten.due("steadyMelt", 955).due("set 3 1", 0).due("steadyMelt", 950);
        // The melt of a band is 0 if it would be less: here only the lower one counts up to 50.
        Run zero = flat(10, 0, "set 3 5", "band 3500 100 0 0", "band 2500 100 0 0");
        zero.due("steadyMelt", 20).due("set 0 25", 10).due("steadyMelt", 50).due("set 0 26", 25).due("steadyMelt", 51);
        // And so is the snow.
        Run noSnow = new Run(answers, "set 0 10", "set 1 5", "set 3 0", "band 2500 100 0 0", "band 1500 100 0 0");
        noSnow.due("steadyMelt", 5);
    }

    private static void byTheOtherSettings() {
        Run run = flat(100, 0, "band 2500 100 0 0");
        for (int melt : new int[] {0, 1, 99, 100, 101, 9000}) {
            run.play("set 2 " + melt).due("steadyMelt", 100).due("count 8", melt);
        }
    }

    private static void eachSteadyMelt() {
        // The snow is the setting, or 4000 more with a growth of 160.
        for (int growth = 0; growth <= 160; growth += 160) {
            Run run = null;
            for (int snow = 0; snow <= 5000; snow++) {
                if (snow % 200 == 0) {
                    run = flat(0, 0, "set 1 " + growth, "band 5000 100 0 0");
                }
                run.play("set 0 " + snow).due("steadyMelt", snow + growth * 25);
            }
        }
    }
}
