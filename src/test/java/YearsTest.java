/** Promises 16 to 20: years that go by, years that are looked at, and the way back. */
public final class YearsTest {
    private static final int INVALID = -2000000001;
    private static final int NOT_POSSIBLE = -2000000002;
    private static final int LIMIT = -2000000003;
    private static final int NOT_FOUND = -2000000004;

    private static final Answers answers = new Answers("YearsTest");

    public static void main(String[] args) {
        promise16Years();
        promise16Errors();
        promise16AllGiveFirst();
        promise17SameAsYears();
        promise17BeyondTheLastYear();
        promise17NothingChanges();
        promise17Errors();
        promise18Calving();
        promise18NoIce();
        promise18NoStake();
        promise18BeyondTheLastYear();
        promise18TheLastSnowThatIsLookedAt();
        promise18Errors();
        promise19SteadyMelt();
        promise19WhereNothingIsLess();
        promise19Errors();
        promise20EachChange();
        promise20History();
        promise20ErrorsAreNoChanges();
        answers.end();
    }

    private static void due(String call, long got, long want) {
        answers.due(call, got, want);
    }

    /** Snow and melt are the same at each height; four states stand in the history then. */
    private static IceTongue flat(int snow, int melt) {
        IceTongue x = new IceTongue();
        x.set(0, snow);
        x.set(1, 0);
        x.set(2, melt);
        x.set(3, 0);
        return x;
    }

    private static void promise16Years() {
        IceTongue x = flat(0, 0);
        x.band(3000, 1000, 500, 4001);
        // 2000 calve in the first year; 1000, 500 and 250 are there when the front has rested twice.
        due("16: years(4)", x.years(4), 4 + 3);
        due("16: Y", x.count(1), 4);
        due("16: one change", x.undo(), 3);
        due("16: Y undone", x.count(1), 0);
        due("16: ice undone", x.bandInfo(0, 3), 4001);
        due("16: years(1)", x.years(1), 4);
        due("16: years(3)", x.years(3), 3);
        due("16: years(1)", x.years(1), 0);
    }

    private static void promise16Errors() {
        IceTongue x = new IceTongue();
        due("16: without bands", x.years(1), NOT_POSSIBLE);
        due("16: invalid ahead of not possible", x.years(0), INVALID);
        due("16: invalid ahead of not possible", x.years(101), INVALID);
        x.band(3000, 1000, 100, 0);
        due("16: years(0)", x.years(0), INVALID);
        due("16: years(-1)", x.years(-1), INVALID);
        due("16: years(101)", x.years(101), INVALID);
        due("16: years(MIN)", x.years(Integer.MIN_VALUE), INVALID);
        due("16: years(MAX)", x.years(Integer.MAX_VALUE), INVALID);
        due("16: states", x.count(13), 1);
        for (int i = 0; i < 4; i++) {
            x.years(100);
        }
        x.years(1);
        due("16: years(100)", x.years(100), LIMIT);
        due("16: invalid ahead of the limit", x.years(101), INVALID);
        due("16: Y", x.count(1), 401);
        answers.holds("years(99) is possible", x.years(99) >= 0);
        due("16: Y", x.count(1), 500);
        due("16: years(1)", x.years(1), LIMIT);
        due("16: Y", x.count(1), 500);
    }

    private static void promise16AllGiveFirst() {
        IceTongue x = flat(0, 0);
        x.band(3000, 1000, 500, 1000);
        x.band(2000, 1000, 500, 0);
        x.band(1000, 1000, 500, 10);
        x.years(1);
        // What a band gets in a year it does not give in it.
        due("16: ice of 0", x.bandInfo(0, 3), 500);
        due("16: ice of 1", x.bandInfo(1, 3), 500);
        due("16: ice of 2", x.bandInfo(2, 3), 5);
        due("16: ice of the front", x.front(0), 5);
        x.years(1);
        due("16: ice of 1", x.bandInfo(1, 3), 500);
        due("16: ice of 2", x.bandInfo(2, 3), 253);
        due("16: ice of the front", x.front(0), 7);
    }

    private static IceTongue withStakes() {
        IceTongue x = new IceTongue();
        x.set(5, 70);
        x.set(6, 1);
        x.band(3300, 1000, 120, 4000);
        x.band(2700, 400, 250, 900);
        x.band(2100, 700, 330, 1700);
        x.stake(0, 0, 900);
        x.stake(0, 800, 300);
        x.stake(1, 10, 100);
        x.stake(2, 0, 10000);
        return x;
    }

    private static void promise17SameAsYears() {
        for (int years = 1; years <= 100; years += 3) {
            IceTongue x = withStakes();
            long ice = x.ifYears(years, 0);
            int pieces = x.ifYears(years, 1);
            int melts = x.ifYears(years, 2);
            int standing = x.ifYears(years, 3);
            int oldest = x.ifYears(years, 4);
            due("17: pieces in " + years, pieces, x.years(years));
            due("17: ice then, " + years, ice, x.account(4));
            due("17: melts in " + years, melts, x.account(2));
            due("17: stakes then, " + years, standing, x.count(3));
            int least = NOT_FOUND;
            for (int y = 500; y >= 0; y--) {
                least = x.ofYear(y) > 0 ? y : least;
            }
            due("17: oldest then, " + years, oldest, least);
        }
    }

    private static void promise17BeyondTheLastYear() {
        IceTongue x = flat(10, 3);
        x.band(3000, 1000, 0, 0);
        for (int i = 0; i < 5; i++) {
            x.years(100);
        }
        due("17: ice", x.ifYears(100, 0), 600 * 7);
        due("17: melts", x.ifYears(100, 2), 300);
        x.set(0, 0);
        x.set(2, 1000);
        due("17: no ice then", x.ifYears(4, 0), 0);
        due("17: no layers then", x.ifYears(4, 4), NOT_FOUND);
        due("17: one year before", x.ifYears(3, 0), 500);
        due("17: oldest one then", x.ifYears(3, 4), 1);
        x.set(0, 5);
        x.set(2, 0);
        x.creep(0, 500);
        // In the end 11 give 5 each year, the oldest ahead: 1 of the year before and 5 of the year are left.
        due("17: oldest after 100 years", x.ifYears(100, 4), 599);
        due("17: ice and pieces", x.ifYears(100, 0) + 500 * x.ifYears(100, 1), 3500 + 500);
        due("17: Y", x.count(1), 500);
    }

    private static void promise17NothingChanges() {
        IceTongue x = withStakes();
        int states = x.count(13);
        x.ifYears(100, 1);
        x.yearsTo(1);
        due("17: states", x.count(13), states);
        due("17: Y", x.count(1), 0);
        due("17: ice", x.account(4), 6600);
        due("17: pieces", x.front(2), 0);
        due("17: melted", x.account(2), 0);
        due("17: stakes", x.count(3), 4);
        due("17: place", x.stakeInfo(1, 1), 800);
        due("17: years of a stake", x.stakeInfo(1, 5), 0);
    }

    private static void promise17Errors() {
        IceTongue x = new IceTongue();
        due("17: without bands", x.ifYears(1, 0), NOT_POSSIBLE);
        due("17: without bands", x.ifYears(1, 4), NOT_POSSIBLE);
        due("17: invalid ahead of not possible", x.ifYears(0, 0), INVALID);
        due("17: invalid ahead of not possible", x.ifYears(1, 5), INVALID);
        x.band(3000, 1000, 100, 0);
        due("17: ifYears(0, 0)", x.ifYears(0, 0), INVALID);
        due("17: ifYears(101, 0)", x.ifYears(101, 0), INVALID);
        due("17: ifYears(1, -1)", x.ifYears(1, -1), INVALID);
        due("17: ifYears(1, 5)", x.ifYears(1, 5), INVALID);
        due("17: ifYears(MIN, MAX)", x.ifYears(Integer.MIN_VALUE, Integer.MAX_VALUE), INVALID);
        x.set(0, 0);
        x.set(1, 0);
        due("17: no layers then", x.ifYears(1, 4), NOT_FOUND);
        due("17: no stakes then", x.ifYears(1, 3), 0);
    }

    private static void promise18Calving() {
        IceTongue x = flat(10, 0);
        x.band(3000, 1000, 500, 10);
        x.set(5, 3000);
        // The band has 20 and gives 10 each year.
        due("18: calving in year 300", x.yearsTo(0), 300);
        x.set(5, 3001);
        due("18: calving after year 300", x.yearsTo(0), NOT_FOUND);
        x.set(5, 10);
        due("18: calving in the first year", x.yearsTo(0), 1);
        x.years(1);
        // The front rests in two years, and calves behind that.
        due("18: calving after the rest", x.yearsTo(0), 3);
        x.years(2);
        due("18: calving in the next year", x.yearsTo(0), 1);
        due("18: nothing changed", x.front(2), 1);
    }

    private static void promise18NoIce() {
        IceTongue x = flat(0, 10);
        x.band(3000, 1000, 0, 2000);
        x.band(2000, 1000, 0, 3000);
        due("18: no ice in 300 years", x.yearsTo(1), 300);
        x.undo();
        x.band(2000, 1000, 0, 3001);
        due("18: still ice in 300 years", x.yearsTo(1), NOT_FOUND);
        x.set(2, 3000);
        due("18: one piece is left", x.yearsTo(1), 2);
        x.set(2, 3001);
        due("18: all melts at once", x.yearsTo(1), 1);
        x.years(1);
        // There is none already; it is asked after one year at least.
        due("18: none before", x.yearsTo(1), 1);
        x.set(0, 3002);
        due("18: snow comes", x.yearsTo(1), NOT_FOUND);
        // Ice of the front is not of the bands.
        IceTongue y = flat(0, 1);
        y.band(3000, 1000, 500, 3);
        due("18: years", y.yearsTo(1), 2);
        y.years(2);
        due("18: ice of the front", y.front(0), 1);
    }

    private static void promise18NoStake() {
        IceTongue x = flat(0, 10);
        x.band(3000, 1000, 0, 100000);
        due("18: no stakes at all", x.yearsTo(2), 1);
        x.stake(0, 0, 2999);
        due("18: melts out in year 300", x.yearsTo(2), 300);
        x.stake(0, 1, 3000);
        due("18: melts out after it", x.yearsTo(2), NOT_FOUND);
        x.creep(0, 100);
        due("18: both fall", x.yearsTo(2), 10);
        x.years(9);
        due("18: both fall", x.yearsTo(2), 1);
        x.years(1);
        due("18: none stands", x.yearsTo(2), 1);
        due("18: none stands", x.count(3), 0);
    }

    private static void promise18BeyondTheLastYear() {
        IceTongue x = flat(10, 0);
        x.band(3000, 1000, 0, 0);
        for (int i = 0; i < 5; i++) {
            x.years(100);
        }
        x.set(2, 5);
        x.stake(0, 0, 1);
        due("18: not found from year 500 on", x.yearsTo(2), NOT_FOUND);
        x.set(0, 0);
        x.set(2, 17);
        // 5000 / 17 = 294.1
        due("18: year 795", x.yearsTo(1), 295);
        x.set(2, 10);
        due("18: 10 of 5000 a year", x.yearsTo(1), NOT_FOUND);
    }

    private static void promise18TheLastSnowThatIsLookedAt() {
        IceTongue x = flat(5, 15);
        x.band(3000, 1000, 0, 0);
        for (int i = 0; i < 5; i++) {
            x.years(100);
        }
        x.set(0, 5);
        x.band(2000, 1000, 0, 3000);
        due("18: no ice in year 800", x.yearsTo(1), 300);
        x.undo();
        // 3001 + 300 * (5 - 15) is 1; without the snow of the year 800 there would be none.
        x.band(2000, 1000, 0, 3001);
        due("18: ice in year 800", x.yearsTo(1), NOT_FOUND);
    }

    private static void promise18Errors() {
        IceTongue x = new IceTongue();
        due("18: without bands", x.yearsTo(2), NOT_POSSIBLE);
        due("18: invalid ahead of not possible", x.yearsTo(3), INVALID);
        x.band(3000, 1000, 0, 0);
        due("18: yearsTo(-1)", x.yearsTo(-1), INVALID);
        due("18: yearsTo(3)", x.yearsTo(3), INVALID);
        due("18: yearsTo(MAX)", x.yearsTo(Integer.MAX_VALUE), INVALID);
    }

    private static void promise19SteadyMelt() {
        IceTongue x = new IceTongue();
        x.band(2500, 1000, 0, 0);
        due("19: snow of the middle height", x.steadyMelt(), 1000);
        x.set(2, 77);
        due("19: whatever the melt is", x.steadyMelt(), 1000);
        due("19: the melt stays", x.count(8), 77);
        x.band(2499, 1000, 0, 0);
        // Snow 1000 + 999, melt m + (m + 1).
        due("19: both together", x.steadyMelt(), 999);
        x.set(0, 0);
        x.set(1, 0);
        x.set(3, 0);
        due("19: no snow, no melt", x.steadyMelt(), 0);
        x.set(0, 5000);
        due("19: all snow there can be", x.steadyMelt(), 5000);
        x.set(1, 500);
        x.set(4, 0);
        due("19: no more than the setting can be", x.steadyMelt(), 9000);
    }

    private static void promise19WhereNothingIsLess() {
        IceTongue x = flat(800, 0);
        x.set(3, 100);
        x.band(3500, 1000, 0, 0);
        x.band(1500, 1000, 0, 0);
        // Melt 0 (not m - 1000) and m + 1000 against 1600.
        due("19: melt is not less than 0", x.steadyMelt(), 600);
        x.set(0, 400);
        due("19: none, for the lower band melts 1000", x.steadyMelt(), NOT_FOUND);
        x.set(0, 500);
        due("19: just none of the setting", x.steadyMelt(), 0);
        IceTongue y = new IceTongue();
        y.set(3, 0);
        y.band(3500, 1000, 0, 0);
        y.band(0, 1000, 0, 0);
        // Snow 1500 and 0 (not 1000 - 1250).
        due("19: snow is not less than 0", y.steadyMelt(), 750);
        // 1501 against two melts of the same.
        y.set(0, 1001);
        due("19: rounded down", y.steadyMelt(), 750);
        IceTongue z = new IceTongue();
        z.set(3, 500);
        z.band(5000, 1000, 0, 0);
        due("19: no melt at all", z.steadyMelt(), 9000);
    }

    private static void promise19Errors() {
        IceTongue x = new IceTongue();
        due("19: without bands", x.steadyMelt(), NOT_POSSIBLE);
        x.band(0, 1000, 0, 0);
        // Snow 0, melt at least 2500.
        due("19: none", x.steadyMelt(), NOT_FOUND);
        due("19: states", x.count(13), 1);
    }

    private static void promise20EachChange() {
        IceTongue x = new IceTongue();
        due("20: undo()", x.undo(), NOT_POSSIBLE);
        x.band(3000, 1000, 100, 5000);
        due("20: band", x.undo(), 0);
        due("20: bands", x.count(0), 0);
        due("20: added", x.account(0), 0);
        x.band(3000, 1000, 100, 5000);
        x.set(5, 7);
        due("20: set", x.undo(), 1);
        due("20: setting", x.count(11), 500);
        x.creep(0, 9);
        due("20: creep", x.undo(), 1);
        due("20: creep of 0", x.bandInfo(0, 2), 100);
        x.stake(0, 5, 50);
        due("20: stake", x.undo(), 1);
        due("20: stakes", x.count(2), 0);
        x.stake(0, 5, 50);
        x.pull(0);
        due("20: pull", x.undo(), 2);
        due("20: stakes", x.count(2), 1);
        due("20: depth", x.stakeInfo(0, 2), 50);
        x.set(5, 10);
        x.years(5);
        due("20: years", x.undo(), 3);
        due("20: Y", x.count(1), 0);
        due("20: ice", x.account(4), 5000);
        due("20: pieces", x.front(2), 0);
        due("20: rest", x.front(1), 0);
        due("20: latest calving", x.front(3), NOT_FOUND);
        due("20: snow", x.account(1), 0);
        due("20: place", x.stakeInfo(0, 1), 5);
        due("20: gave", x.bandInfo(0, 10), 0);
        x.type('1');
        x.type(',');
        x.type('2');
        x.type(';');
        due("20: live()", x.live(), 1);
        due("20: live", x.undo(), 3);
        due("20: snow setting", x.count(6), 1000);
        due("20: melt setting", x.count(8), 1500);
        due("20: Y", x.count(1), 0);
        due("20: the text stays", x.count(14), 4);
        x.clearText();
        due("20: the text is no change", x.undo(), 2);
        due("20: the text stays empty", x.count(14), 0);
    }

    private static void promise20History() {
        IceTongue x = new IceTongue();
        for (int i = 1; i <= 6; i++) {
            x.set(0, i);
            due("20: states", x.count(13), Math.min(i, 4));
        }
        for (int left = 3; left >= 0; left--) {
            due("20: undo()", x.undo(), left);
            due("20: snow", x.count(6), left + 2);
            due("20: states", x.count(13), left);
        }
        due("20: the history is empty", x.undo(), NOT_POSSIBLE);
        due("20: snow", x.count(6), 2);
        for (int i = 11; i <= 13; i++) {
            x.set(0, i);
        }
        due("20: undo()", x.undo(), 2);
        x.set(0, 20);
        x.set(0, 21);
        x.set(0, 22);
        due("20: undo()", x.undo(), 3);
        due("20: snow", x.count(6), 21);
        due("20: undo()", x.undo(), 2);
        due("20: undo()", x.undo(), 1);
        due("20: snow", x.count(6), 12);
        due("20: undo()", x.undo(), 0);
        due("20: snow", x.count(6), 11);
        due("20: the history is empty", x.undo(), NOT_POSSIBLE);
    }

    private static void promise20ErrorsAreNoChanges() {
        IceTongue x = new IceTongue();
        x.set(-1, 0);
        x.band(0, 0, 0, 0);
        x.creep(0, 0);
        x.stake(0, 0, 0);
        x.pull(0);
        x.years(1);
        x.live();
        due("20: no change", x.count(13), 0);
        x.band(3000, 1000, 100, 5000);
        x.type('x');
        x.live();
        x.band(3000, 1000, 100, 5000);
        x.years(0);
        x.steadyMelt();
        x.ifYears(1, 1);
        x.yearsTo(1);
        x.fault(1);
        due("20: one change", x.count(13), 1);
        // A change that brings the same is one all the same.
        x.set(0, 1000);
        x.creep(0, 100);
        due("20: three changes", x.count(13), 3);
    }
}
