/** The edges of the front, the stakes and the accounts, as "Terms" names them; a comment tells the sentence. */
public final class RideEdgesTest {
    private static final int NOT_FOUND = Calls.NOT_FOUND;

    private static final Answers answers = new Answers("RideEdgesTest");

    public static void main(String[] args) {
        atLeastOnePiece();
        wholePieces();
        leastAndGreatestPiece();
        restGoesDown();
        restOfNoYears();
        restOfFiftyYears();
        restIsTheSettingOfThatYear();
        latestCalving();
        changeOfAStake();
        lessThanMinusItsDepth();
        leastAndGreatestDepth();
        wayIsRoundedDown();
        placeAtTheLength();
        andSoOn();
        fallenStake();
        meltedOutStakeMovesNoMore();
        yearsOfAStake();
        mostStakes();
        changeAtFirst();
        accounts();
        accountsAtTheEnd();
        answers.end();
    }

    private static Run flat(int snow, int melt, String... calls) {
        return Start.flat(answers, snow, melt, calls).run();
    }

    /** A band that gives half of some ice to the front in the first year. */
    private static Run given(int given, int piece, int rest, String... calls) {
        return flat(0, 0, "set 5 " + piece, "set 6 " + rest, "band 3000 100 500 " + 2 * given).play(calls);
    }

    // "if it has at least one piece (the setting), it calves"
    private static void atLeastOnePiece() {
        given(9, 10, 2).due("years 1", 0).dues("front", 9, 0, 0, NOT_FOUND).due("account 3", 0);
        given(10, 10, 2).due("years 1", 1).dues("front", 0, 2, 1, 1).due("account 3", 10);
        given(11, 10, 2).due("years 1", 1).dues("front", 1, 2, 1, 1).due("account 3", 10);
        given(0, 1, 2).due("years 1", 0).dues("front", 0, 0, 0, NOT_FOUND);
    }

    // "it calves as many whole pieces as it has"
    private static void wholePieces() {
        given(19, 10, 2).due("years 1", 1).dues("front", 9, 2, 1, 1).due("account 3", 10);
        given(20, 10, 2).due("years 1", 2).dues("front", 0, 2, 2, 1).due("account 3", 20);
        given(21, 10, 2).due("years 1", 2).dues("front", 1, 2, 2, 1).due("account 3", 20).due("account 4", 22);
    }

    private static void leastAndGreatestPiece() {
        given(500000, 1, 2).due("years 1", 500000).dues("front", 0, 2, 500000, 1).due("account 3", 500000);
        // All but 1 of a million is given in the end; snow of 1 brings the last one.
        Run run = flat(0, 0, "set 5 1000000", "band 3000 100 500 1000000", "years 100");
        run.dues("front", 999999, 0, 0, NOT_FOUND).due("yearsTo 0", NOT_FOUND).due("ifYears 100 1", 0);
        run.due("set 0 1", 0).due("yearsTo 0", 1).due("years 1", 1).dues("front", 0, 2, 1, 101);
        run.due("account 3", 1000000).due("account 4", 1).due("account 5", 1);
    }

    // "If the front rests, its rest becomes 1 year less. Otherwise .."
    private static void restGoesDown() {
        // 16, 8, 4, 2 and 1 are given; a piece is 1.
        Run run = given(16, 1, 2, "years 1");
        run.dues("front", 0, 2, 16, 1);
        run.due("years 1", 0).dues("front", 8, 1, 16, 1);
        run.due("years 1", 0).dues("front", 12, 0, 16, 1);
        run.due("years 1", 14).dues("front", 0, 2, 30, 4);
        run.due("years 1", 0).dues("front", 1, 1, 30, 4);
        // It rests no longer, and has nothing.
        run.due("years 1", 0).due("years 1", 1).due("years 2", 0).dues("front", 0, 0, 31, 7);
        run.due("years 5", 0).dues("front", 0, 0, 31, 7);
        Run one = given(16, 1, 1, "years 1");
        one.due("front 1", 1).due("years 1", 0).due("front 1", 0).due("years 1", 12).due("front 3", 3);
    }

    private static void restOfNoYears() {
        Run run = given(16, 1, 0, "years 1");
        run.dues("front", 0, 0, 16, 1).due("years 1", 8).dues("front", 0, 0, 24, 2).due("years 1", 4);
        run.due("yearsTo 0", 1).due("years 2", 3).due("front 3", 5).due("yearsTo 0", NOT_FOUND);
    }

    private static void restOfFiftyYears() {
        Run run = given(500000, 1, 50).due("years 1", 500000).due("front 1", 50).due("yearsTo 0", 51);
        run.due("years 49", 0).due("front 1", 1).due("years 1", 0).due("front 1", 0).due("front 0", 499999);
        run.due("years 1", 499999).dues("front", 0, 50, 999999, 52);
    }

    // "and then its rest is the setting rest"
    private static void restIsTheSettingOfThatYear() {
        Run run = given(16, 1, 2, "years 1", "set 6 50");
        run.due("front 1", 2).due("years 1", 0).due("front 1", 1).due("years 1", 0).due("front 1", 0);
        run.due("years 1", 14).due("front 1", 50).play("set 6 0").due("front 1", 50).due("yearsTo 0", 51);
    }

    // "the year of its latest calving", "NOT_FOUND for 3 if it never calved"
    private static void latestCalving() {
        Run run = given(16, 1, 0);
        run.due("front 3", NOT_FOUND).due("ifYears 1 1", 16).due("front 3", NOT_FOUND);
        run.due("years 1", 16).due("front 3", 1).due("undo", 3).due("front 3", NOT_FOUND);
        run.due("years 1", 16).due("years 1", 8).dues("front", 0, 0, 24, 2).due("account 3", 24);
        run.due("undo", 3).dues("front", 0, 0, 16, 1).due("account 3", 16);
        run.due("undo", 2).dues("front", 0, 0, 0, NOT_FOUND).due("account 3", 0);
        run.due("years 100", 31).due("front 3", 5);
        flat(0, 0, "set 5 1", "band 3000 100 0 9", "until 499", "creep 0 500", "years 1").due("front 3", 500);
    }

    // "its change becomes greater by the snow and less by what really melted of the band in which it is"
    private static void changeOfAStake() {
        flat(0, 0, "band 3000 100 0 5", "stake 0 0 1", "years 1").due("stakeInfo 0 3", 0);
        flat(7, 3, "band 3000 100 0 5", "stake 0 0 1", "years 2").due("stakeInfo 0 3", 8);
        flat(5000, 0, "band 3000 100 0 5", "stake 0 0 1", "until 500").due("stakeInfo 0 3", 2500000);
        // Of 5 and snow of 7 no more than 12 can melt.
        flat(7, 13, "band 3000 100 0 5", "stake 0 0 5", "years 1").dues("stakeInfo 0", 0, 0, 5, -5, 0, 1)
                .due("years 1", 0).due("stakeInfo 0 3", -5);
        // A band without ice and snow.
        flat(0, 9000, "band 3000 100 0 0", "stake 0 0 1", "years 9").dues("stakeInfo 0", 0, 0, 1, 0, 0, 9);
    }

    // "if it is less than minus its depth then, it has melted out and stands no more"
    private static void lessThanMinusItsDepth() {
        Run run = flat(0, 30, "band 3000 100 0 90", "stake 0 0 29", "stake 0 1 30", "stake 0 2 31", "years 1");
        run.due("stakeInfo 0 4", 1).due("stakeInfo 1 4", 0).due("stakeInfo 2 4", 0);
        run.due("count 2", 3).due("count 3", 2).due("stakesIn 0", 6);
        run.due("years 1", 0).due("stakeInfo 1 4", 1).due("stakeInfo 2 4", 1).due("count 3", 0).due("stakesIn 0", 0);
        run.due("stakeInfo 0 3", -30).due("stakeInfo 1 3", -60).due("stakeInfo 2 3", -60);
    }

    private static void leastAndGreatestDepth() {
        flat(0, 1, "band 3000 100 0 90", "stake 0 0 1", "years 1").due("stakeInfo 0 4", 0)
                .due("years 1", 0).due("stakeInfo 0 4", 1).due("stakeInfo 0 3", -2);
        flat(0, 2, "band 3000 100 0 90", "stake 0 0 1", "years 1").due("stakeInfo 0 4", 1).due("stakeInfo 0 3", -2);
        flat(0, 5000, "band 3000 100 0 90000", "stake 0 0 10000", "stake 0 1 9999", "years 2")
                .due("stakeInfo 0 3", -10000).due("stakeInfo 0 4", 0).due("stakeInfo 1 4", 1)
                .due("set 2 1", 5000).due("years 1", 0).due("stakeInfo 0 3", -10001).due("stakeInfo 0 4", 1);
    }

    // "Otherwise it moves down by length * creep / 1000 of this band"
    private static void wayIsRoundedDown() {
        int[][] cases = {
            {100, 0, 0}, {100, 9, 0}, {100, 10, 1}, {199, 5, 0}, {200, 5, 1}, {399, 5, 1}, {5000, 1, 5},
            {5000, 499, 2495}, {5000, 500, 2500}, {999, 500, 499},
        };
        for (int[] c : cases) {
            Run run = flat(0, 0, "band 3000 " + c[0] + " " + c[1] + " 0", "band 2000 5000 0 0", "stake 0 0 1",
                    "years 1");
            run.due("stakeInfo 0 0", 0).due("stakeInfo 0 1", c[2]);
        }
        // Of the band in which it is ahead of the move.
        flat(0, 0, "band 3000 1000 1 0", "band 2000 1000 500 0", "stake 0 999 1", "years 1")
                .dues("stakeInfo 0", 1, 0, 1, 0, 0, 1).due("years 1", 0).dues("stakeInfo 0", 1, 500, 1, 0, 0, 2);
    }

    // "if its place is at least the length of its band then, it is in the next band, at its place less this length"
    private static void placeAtTheLength() {
        Run run = flat(0, 0, "band 3000 1000 100 0", "band 2000 1000 0 0", "stake 0 898 1", "stake 0 899 1",
                "stake 0 900 1", "stake 0 901 1", "stake 0 999 1", "years 1");
        run.dues("stakeInfo 0", 0, 998).dues("stakeInfo 1", 0, 999).dues("stakeInfo 2", 1, 0);
        run.dues("stakeInfo 3", 1, 1).dues("stakeInfo 4", 1, 99).due("stakesIn 0", 3).due("stakesIn 1", 28);
    }

    // "(and so on)"
    private static void andSoOn() {
        Run run = flat(0, 0, "band 3000 5000 500 0");
        for (int i = 1; i < 10; i++) {
            run.due("band " + (3000 - i) + " 100 0 0", i);
        }
        int[] places = {2499, 2500, 2599, 2600, 3399, 3400};
        for (int i = 0; i < places.length; i++) {
            run.due("stake 0 " + places[i] + " 1", i);
        }
        run.due("years 1", 0).dues("stakeInfo 0", 0, 4999).dues("stakeInfo 1", 1, 0).dues("stakeInfo 2", 1, 99);
        run.dues("stakeInfo 3", 2, 0).dues("stakeInfo 4", 9, 99).dues("stakeInfo 5", 0, 3400, 1, 0, 2, 1);
        run.due("stakesIn 9", 16).due("stakesIn 0", 1).due("count 3", 5);
    }

    // "if there is no next band, it has fallen and stands no more"
    private static void fallenStake() {
        Run run = flat(2, 0, "band 3000 1000 100 0", "stake 0 899 1", "stake 0 900 1", "stake 0 999 1", "years 1");
        run.dues("stakeInfo 0", 0, 999, 1, 2, 0, 1).dues("stakeInfo 1", 0, 900, 1, 2, 2, 1);
        run.dues("stakeInfo 2", 0, 999, 1, 2, 2, 1).due("stakesIn 0", 1).due("count 3", 1).due("count 2", 3);
        // It has fallen, whatever comes below later on.
        run.play("band 2000 1000 0 0").due("years 1", 0).dues("stakeInfo 0", 1, 99, 1, 4, 0, 2);
        run.dues("stakeInfo 1", 0, 900, 1, 2, 2, 1).due("stakesIn 1", 1);
    }

    private static void meltedOutStakeMovesNoMore() {
        Run run = flat(0, 30, "band 3000 1000 100 900", "stake 0 5 29", "stake 0 999 29", "stake 0 6 30", "years 1");
        run.dues("stakeInfo 0", 0, 5, 29, -30, 1, 1).dues("stakeInfo 1", 0, 999, 29, -30, 1, 1);
        run.dues("stakeInfo 2", 0, 106, 30, -30, 0, 1);
        run.due("years 3", 0).dues("stakeInfo 0", 0, 5, 29, -30, 1, 1).dues("stakeInfo 1", 0, 999, 29, -30, 1, 1);
    }

    // "the years that went by with it, that in which it melted out or fell included"
    private static void yearsOfAStake() {
        Run run = flat(0, 10, "band 3000 1000 100 9000", "until 3", "stake 0 0 35", "stake 0 650 900", "stake 0 1 900",
                "set 5 1000000");
        run.due("stakeInfo 0 5", 0).due("years 3", 0);
        run.dues("stakeInfo 0", 0, 300, 35, -30, 0, 3).dues("stakeInfo 1", 0, 950, 900, -30, 0, 3);
        run.due("years 1", 0);
        run.dues("stakeInfo 0", 0, 300, 35, -40, 1, 4).dues("stakeInfo 1", 0, 950, 900, -40, 2, 4);
        run.due("years 2", 0).due("stakeInfo 0 5", 4).due("stakeInfo 1 5", 4);
        run.dues("stakeInfo 2", 0, 601, 900, -60, 0, 6);
    }

    // "There are at most 6 stakes, numbered from 0."
    private static void mostStakes() {
        Run run = flat(0, 0, "band 3000 1000 0 0");
        for (int i = 0; i < 6; i++) {
            run.due("count 2", i).due("stakeInfo " + i + " 0", Calls.INVALID).due("stake 0 " + i + " 9", i);
        }
        run.due("stake 0 6 9", Calls.LIMIT).due("count 2", 6).due("stakesIn 0", 63).due("stakeInfo 6 0", Calls.INVALID);
        run.due("pull 5", 0).due("stake 0 6 9", 5).due("stake 0 7 9", Calls.LIMIT);
        // Behind a pull of the first one, the next one that is set is none of those that are there.
        run.due("pull 0", 0).due("pull 0", 0).due("stake 0 50 8", 4).due("stake 0 60 7", 5)
                .due("stake 0 70 6", Calls.LIMIT);
        int[] places = {2, 3, 4, 6, 50, 60};
        for (int i = 0; i < 6; i++) {
            run.due("stakeInfo " + i + " 1", places[i]);
        }
    }

    // "its change is at first 0"
    private static void changeAtFirst() {
        flat(9, 0, "band 3000 1000 0 0", "years 5", "stake 0 0 1").dues("stakeInfo 0", 0, 0, 1, 0, 0, 0)
                .due("pull 0", 0).due("stake 0 0 1", 0).due("years 1", 0).due("pull 0", 9).due("stake 0 0 1", 0)
                .due("stakeInfo 0 3", 0);
    }

    // "0 ice with which bands were added, 1 snow, 2 ice that melted, 3 ice that calved, .. (0 + 1 - 2 - 3 is 4.)"
    private static void accounts() {
        new Run(answers).dues("account", 0, 0, 0, 0, 0, 0);
        new Run(answers, "band 3000 1000 500 0").dues("account", 0, 0, 0, 0, 0, 0);
        new Run(answers, "band 3000 1000 500 1000000").dues("account", 1000000, 0, 0, 0, 1000000, 1000000);
        // 100 + 9 - 5 gives 52, of which 50 calve.
        flat(9, 5, "set 5 10", "band 3000 1000 500 100", "years 1").dues("account", 100, 9, 5, 50, 54, 54)
                .due("front 0", 2).due("undo", 3).dues("account", 100, 0, 0, 0, 100, 100);
        // Ice of the front alone.
        flat(0, 1, "band 3000 1000 500 3", "years 2").dues("account", 3, 0, 2, 0, 1, 1).due("bandInfo 0 3", 0)
                .due("front 0", 1).due("ofYear 0", 0).due("count 4", 0);
    }

    private static void accountsAtTheEnd() {
        Run run = new Run(answers, "set 5 77", "band 4000 1000 200 500000", "band 2600 500 300 0",
                "band 2000 700 500 9");
        for (int year = 50; year <= 500; year += 50) {
            run.play("until " + year);
            long ice = run.ask("account 0") + run.ask("account 1") - run.ask("account 2") - run.ask("account 3");
            run.due("account 4", ice).due("account 5", ice).due("account 0", 500009);
            run.due("account 3", 77 * run.ask("front 2"));
        }
        run.due("count 1", 500);
    }
}
