/** Promises 12 to 15: the stakes. */
public final class StakesTest {
    private static final int INVALID = -2000000001;
    private static final int NOT_POSSIBLE = -2000000002;
    private static final int LIMIT = -2000000003;

    private static final Answers answers = new Answers("StakesTest");

    public static void main(String[] args) {
        promise12Stake();
        promise12Errors();
        promise12PlaceOfAnotherStake();
        promise13Pull();
        promise13PullOfOneThatStandsNoMore();
        promise14Ride();
        promise14SeveralBandsInOneMove();
        promise14Fall();
        promise14MeltOut();
        promise14MeltOutAheadOfTheMove();
        promise14WhatReallyMelted();
        promise14CreepOfTheBandAheadOfTheMove();
        promise14Errors();
        promise15StakesIn();
        answers.end();
    }

    private static void due(String call, long got, long want) {
        answers.due(call, got, want);
    }

    private static void info(String when, IceTongue x, int stake, int... want) {
        for (int what = 0; what < want.length; what++) {
            due(when + ": stakeInfo(" + stake + ", " + what + ")", x.stakeInfo(stake, what), want[what]);
        }
    }

    /** Snow and melt are the same at each height. */
    private static IceTongue flat(int snow, int melt) {
        IceTongue x = new IceTongue();
        x.set(0, snow);
        x.set(1, 0);
        x.set(2, melt);
        x.set(3, 0);
        return x;
    }

    private static void promise12Stake() {
        IceTongue x = new IceTongue();
        x.band(3000, 1000, 100, 1000);
        x.band(2000, 100, 100, 1000);
        due("12: stake(0, 0, 1)", x.stake(0, 0, 1), 0);
        due("12: stake(0, 999, 10000)", x.stake(0, 999, 10000), 1);
        due("12: stake(1, 99, 7)", x.stake(1, 99, 7), 2);
        due("12: the same place in another band", x.stake(1, 0, 7), 3);
        info("12: of 0", x, 0, 0, 0, 1, 0, 0, 0);
        info("12: of 1", x, 1, 0, 999, 10000, 0, 0, 0);
        info("12: of 2", x, 2, 1, 99, 7, 0, 0, 0);
        due("12: stakes", x.count(2), 4);
        due("12: states", x.count(13), 4);
    }

    private static void promise12Errors() {
        IceTongue x = new IceTongue();
        due("12: without bands", x.stake(0, 0, 1), INVALID);
        x.band(3000, 1000, 100, 1000);
        due("12: stake(1, 0, 1)", x.stake(1, 0, 1), INVALID);
        due("12: stake(-1, 0, 1)", x.stake(-1, 0, 1), INVALID);
        due("12: stake(0, -1, 1)", x.stake(0, -1, 1), INVALID);
        due("12: stake(0, 1000, 1)", x.stake(0, 1000, 1), INVALID);
        due("12: stake(0, 0, 0)", x.stake(0, 0, 0), INVALID);
        due("12: stake(0, 0, 10001)", x.stake(0, 0, 10001), INVALID);
        due("12: stake(MAX, MAX, MAX)", x.stake(Integer.MAX_VALUE, Integer.MAX_VALUE, Integer.MAX_VALUE), INVALID);
        due("12: stakes", x.count(2), 0);
        due("12: states", x.count(13), 1);
        for (int i = 0; i < 6; i++) {
            due("12: stake " + i, x.stake(0, i, 5), i);
        }
        due("12: a seventh one", x.stake(0, 6, 5), LIMIT);
        due("12: not possible ahead of the limit", x.stake(0, 5, 5), NOT_POSSIBLE);
        due("12: invalid ahead of not possible", x.stake(0, 5, 0), INVALID);
        due("12: invalid ahead of the limit", x.stake(0, 1000, 5), INVALID);
        due("12: stakes", x.count(2), 6);
    }

    private static void promise12PlaceOfAnotherStake() {
        IceTongue x = flat(0, 10);
        x.band(3000, 100, 500, 1000);
        x.stake(0, 0, 5);
        x.stake(0, 99, 500);
        due("12: at a place that is taken", x.stake(0, 0, 9), NOT_POSSIBLE);
        x.years(1);
        // 0 has melted out at place 0, 1 has fallen from place 99: neither stands there now.
        due("12: where one melted out", x.stake(0, 0, 9), 2);
        due("12: where one fell", x.stake(0, 99, 9), 3);
        due("12: where it is taken again", x.stake(0, 0, 9), NOT_POSSIBLE);
        due("12: one more", x.stake(0, 1, 9), 4);
        due("12: one more", x.stake(0, 2, 9), 5);
        // Those that stand no more are counted too.
        due("12: a seventh one", x.stake(0, 3, 9), LIMIT);
        due("12: stakes that stand", x.count(3), 4);
    }

    private static void promise13Pull() {
        IceTongue x = flat(100, 30);
        x.band(3000, 1000, 0, 1000);
        due("13: without stakes", x.pull(0), INVALID);
        x.stake(0, 10, 1);
        x.stake(0, 20, 2);
        x.years(2);
        x.stake(0, 30, 3);
        due("13: pull(3)", x.pull(3), INVALID);
        due("13: pull(-1)", x.pull(-1), INVALID);
        due("13: pull(MAX)", x.pull(Integer.MAX_VALUE), INVALID);
        due("13: pull(MIN)", x.pull(Integer.MIN_VALUE), INVALID);
        due("13: pull(0)", x.pull(0), 140);
        due("13: stakes", x.count(2), 2);
        info("13: 1 is 0 now", x, 0, 0, 20, 2, 140, 0, 2);
        info("13: 2 is 1 now", x, 1, 0, 30, 3, 0, 0, 0);
        due("13: stakesIn(0)", x.stakesIn(0), 3);
        due("13: pull(1)", x.pull(1), 0);
        due("13: stakeInfo(1, 0)", x.stakeInfo(1, 0), INVALID);
        due("13: the place is free", x.stake(0, 30, 4), 1);
        info("13: a new one", x, 1, 0, 30, 4, 0, 0, 0);
        due("13: undo()", x.undo(), 3);
        due("13: undo()", x.undo(), 2);
        info("13: as before", x, 1, 0, 30, 3, 0, 0, 0);
        due("13: undo()", x.undo(), 1);
        info("13: as before", x, 0, 0, 10, 1, 140, 0, 2);
        due("13: stakes as before", x.count(2), 3);
    }

    private static void promise13PullOfOneThatStandsNoMore() {
        IceTongue x = flat(0, 10);
        x.band(3000, 100, 500, 1000);
        for (int i = 0; i < 6; i++) {
            x.stake(0, i, i < 3 ? 5 : 50);
        }
        x.years(1);
        due("13: one that melted out", x.pull(1), -10);
        due("13: stakes", x.count(2), 5);
        due("13: stakes that stand", x.count(3), 3);
        due("13: stakesIn(0)", x.stakesIn(0), 4 + 8 + 16);
        due("13: there is room again", x.stake(0, 0, 5), 5);
        due("13: and no more", x.stake(0, 1, 5), LIMIT);
    }

    private static void promise14Ride() {
        IceTongue x = flat(100, 30);
        x.band(3000, 1000, 101, 1000);
        x.band(2000, 600, 300, 1000);
        x.stake(0, 798, 500);
        x.years(1);
        // 1000 * 101 / 1000 = 101 down, and 70 more
        info("14: a year", x, 0, 0, 899, 500, 70, 0, 1);
        x.stake(0, 898, 5);
        x.years(1);
        // The first one is at the length of its band: it is at 0 of the next one.
        info("14: at the length", x, 0, 1, 0, 500, 140, 0, 2);
        info("14: ahead of the length", x, 1, 0, 999, 5, 70, 0, 1);
        x.years(1);
        // 600 * 300 / 1000 = 180
        info("14: in the next band", x, 0, 1, 180, 500, 210, 0, 3);
        info("14: over the length", x, 1, 1, 100, 5, 140, 0, 2);
    }

    private static void promise14SeveralBandsInOneMove() {
        IceTongue x = flat(0, 0);
        x.band(3000, 5000, 500, 0);
        x.band(2900, 100, 0, 0);
        x.band(2800, 100, 0, 0);
        x.band(2700, 5000, 0, 0);
        x.stake(0, 4999, 1);
        x.stake(0, 2600, 1);
        x.stake(0, 2599, 1);
        x.years(1);
        // 7499 - 5000 - 100 - 100
        info("14: three bands down", x, 0, 3, 2299, 1, 0, 0, 1);
        info("14: two bands down", x, 1, 2, 0, 1, 0, 0, 1);
        info("14: one band down", x, 2, 1, 99, 1, 0, 0, 1);
    }

    private static void promise14Fall() {
        IceTongue x = flat(7, 0);
        x.band(3000, 5000, 500, 0);
        x.band(2900, 100, 0, 0);
        x.stake(0, 4999, 1);
        x.stake(0, 2600, 1);
        x.stake(0, 2599, 1);
        x.years(1);
        // From 4999 it would be at 2499 of a band of 100, behind which there is none.
        info("14: fallen over a band", x, 0, 0, 4999, 1, 7, 2, 1);
        info("14: fallen at the very end", x, 1, 0, 2600, 1, 7, 2, 1);
        info("14: at the last place", x, 2, 1, 99, 1, 7, 0, 1);
        x.band(2000, 5000, 0, 0);
        x.years(1);
        // One that has fallen stays fallen, and its years are over.
        info("14: still fallen", x, 0, 0, 4999, 1, 7, 2, 1);
        info("14: rides on", x, 2, 1, 99, 1, 14, 0, 2);
        x.creep(1, 10);
        x.years(1);
        // 100 * 10 / 1000 = 1: now there is a band to be in.
        info("14: rides into the new band", x, 2, 2, 0, 1, 21, 0, 3);
    }

    private static void promise14MeltOut() {
        IceTongue x = flat(0, 30);
        x.band(3000, 1000, 0, 100000);
        x.stake(0, 0, 30);
        x.stake(0, 1, 29);
        x.stake(0, 2, 31);
        x.years(1);
        info("14: minus its depth", x, 0, 0, 0, 30, -30, 0, 1);
        info("14: less than minus its depth", x, 1, 0, 1, 29, -30, 1, 1);
        info("14: more than minus its depth", x, 2, 0, 2, 31, -30, 0, 1);
        x.years(1);
        info("14: a year later", x, 0, 0, 0, 30, -60, 1, 2);
        info("14: its change stays", x, 1, 0, 1, 29, -30, 1, 1);
        x.set(0, 500);
        x.years(2);
        info("14: snow does not put it up again", x, 0, 0, 0, 30, -60, 1, 2);
        due("14: none stands", x.count(3), 0);
    }

    private static void promise14MeltOutAheadOfTheMove() {
        IceTongue x = flat(0, 30);
        x.band(3000, 1000, 500, 100000);
        x.stake(0, 999, 29);
        x.stake(0, 100, 29);
        x.stake(0, 998, 30);
        x.years(1);
        // One that has melted out moves no more, so it does not fall.
        info("14: melted out at the end", x, 0, 0, 999, 29, -30, 1, 1);
        info("14: melted out in its place", x, 1, 0, 100, 29, -30, 1, 1);
        info("14: fallen", x, 2, 0, 998, 30, -30, 2, 1);
    }

    private static void promise14WhatReallyMelted() {
        IceTongue x = flat(10, 300);
        x.band(3000, 1000, 0, 20);
        x.stake(0, 0, 20);
        x.years(1);
        // 30 melted, not 300.
        info("14: not more than there was", x, 0, 0, 0, 20, -20, 0, 1);
        x.years(5);
        info("14: only the snow melts", x, 0, 0, 0, 20, -20, 0, 6);
    }

    private static void promise14CreepOfTheBandAheadOfTheMove() {
        IceTongue x = new IceTongue();
        x.set(2, 500);
        x.band(3000, 1000, 100, 100000);
        x.band(2000, 1000, 500, 100000);
        x.stake(0, 950, 10000);
        x.years(1);
        // Snow 1000 + 250, melt 500 - 500 at 3000: the band above counts in the year of the change.
        info("14: the band ahead", x, 0, 1, 50, 10000, 1250, 0, 1);
        x.years(1);
        // Snow 1000 - 250, melt 500 + 500 at 2000.
        info("14: the band behind", x, 0, 1, 550, 10000, 1000, 0, 2);
    }

    private static void promise14Errors() {
        IceTongue x = new IceTongue();
        due("14: without stakes", x.stakeInfo(0, 0), INVALID);
        x.band(3000, 1000, 100, 100000);
        x.stake(0, 950, 10000);
        due("14: stakeInfo(1, 0)", x.stakeInfo(1, 0), INVALID);
        due("14: stakeInfo(-1, 0)", x.stakeInfo(-1, 0), INVALID);
        due("14: stakeInfo(0, -1)", x.stakeInfo(0, -1), INVALID);
        due("14: stakeInfo(0, 6)", x.stakeInfo(0, 6), INVALID);
        due("14: stakeInfo(MIN, MAX)", x.stakeInfo(Integer.MIN_VALUE, Integer.MAX_VALUE), INVALID);
    }

    private static void promise15StakesIn() {
        IceTongue x = flat(0, 10);
        due("15: without bands", x.stakesIn(0), INVALID);
        x.band(3000, 1000, 100, 1000);
        x.band(2000, 1000, 100, 1000);
        due("15: without stakes", x.stakesIn(0), 0);
        x.stake(1, 950, 100);
        x.stake(0, 0, 5);
        x.stake(0, 950, 100);
        x.stake(1, 0, 100);
        x.stake(0, 1, 100);
        x.stake(0, 2, 100);
        due("15: stakesIn(0)", x.stakesIn(0), 2 + 4 + 16 + 32);
        due("15: stakesIn(1)", x.stakesIn(1), 1 + 8);
        due("15: stakesIn(2)", x.stakesIn(2), INVALID);
        due("15: stakesIn(-1)", x.stakesIn(-1), INVALID);
        due("15: stakesIn(MAX)", x.stakesIn(Integer.MAX_VALUE), INVALID);
        x.years(1);
        // 0 has fallen, 1 has melted out, 2 has come into the next band.
        due("15: stakesIn(0) later", x.stakesIn(0), 16 + 32);
        due("15: stakesIn(1) later", x.stakesIn(1), 4 + 8);
    }
}
