/** Promises 1 to 11: the new object and its bands. */
public final class BandsTest {
    private static final int INVALID = -2000000001;
    private static final int NOT_POSSIBLE = -2000000002;
    private static final int LIMIT = -2000000003;
    private static final int NOT_FOUND = -2000000004;

    private static final Answers answers = new Answers("BandsTest");

    public static void main(String[] args) {
        constants();
        promise1NewObject();
        promise2Set();
        promise2ErrorsChangeNothing();
        promise3Band();
        promise3Errors();
        promise4Creep();
        promise5Settings();
        promise5YearOfFlatSettings();
        promise5BandAddedLater();
        promise5BandAddedWhereAnotherWas();
        promise5Errors();
        promise6Layer();
        promise6MeltAndCreepOfLayers();
        promise7OfYear();
        promise8Line();
        promise9Front();
        promise9Rest();
        promise9ChangedPieceAndRest();
        promise10Account();
        promise10GreatAmounts();
        promise11Count();
        answers.end();
    }

    private static void due(String call, long got, long want) {
        answers.due(call, got, want);
    }

    /** Snow and melt are the same at each height; four states stand in the history then. */
    private static IceTongue flat(int snow, int melt) {
        IceTongue x = new IceTongue();
        x.set(0, snow);
        x.set(1, 0);
        x.set(2, melt);
        x.set(3, 0);
        return x;
    }

    private static void constants() {
        due("INVALID_ARGUMENT", IceTongue.INVALID_ARGUMENT, INVALID);
        due("NOT_POSSIBLE", IceTongue.NOT_POSSIBLE, NOT_POSSIBLE);
        due("LIMIT_REACHED", IceTongue.LIMIT_REACHED, LIMIT);
        due("NOT_FOUND", IceTongue.NOT_FOUND, NOT_FOUND);
    }

    private static void promise1NewObject() {
        IceTongue x = new IceTongue();
        int[] counts = {0, 0, 0, 0, 0, 0, 1000, 50, 1500, 100, 2500, 500, 2, 0, 0};
        for (int what = 0; what < counts.length; what++) {
            due("1: count(" + what + ")", x.count(what), counts[what]);
        }
        for (int what = 0; what <= 5; what++) {
            due("1: account(" + what + ")", x.account(what), 0);
        }
        due("1: front(0)", x.front(0), 0);
        due("1: front(1)", x.front(1), 0);
        due("1: front(2)", x.front(2), 0);
        due("1: front(3)", x.front(3), NOT_FOUND);
        due("1: bandInfo(0, 0)", x.bandInfo(0, 0), INVALID);
        due("1: stakeInfo(0, 0)", x.stakeInfo(0, 0), INVALID);
        due("1: line()", x.line(), NOT_FOUND);
        due("1: ofYear(0)", x.ofYear(0), 0);
        due("1: undo()", x.undo(), NOT_POSSIBLE);
        due("1: fault(0)", x.fault(0), NOT_FOUND);
        due("1: clearText()", x.clearText(), 0);
        // Two objects know nothing of one another.
        IceTongue y = new IceTongue();
        y.band(3000, 1000, 100, 7);
        y.set(0, 1);
        due("1: count(0) of another", x.count(0), 0);
        due("1: count(6) of another", x.count(6), 1000);
    }

    private static void promise2Set() {
        int[] first = {1000, 50, 1500, 100, 2500, 500, 2};
        int[] least = {0, 0, 0, 0, 0, 1, 0};
        int[] most = {5000, 500, 9000, 500, 5000, 1000000, 50};
        for (int what = 0; what <= 6; what++) {
            IceTongue x = new IceTongue();
            due("2: too little of " + what, x.set(what, least[what] - 1), INVALID);
            due("2: too much of " + what, x.set(what, most[what] + 1), INVALID);
            due("2: first of " + what, x.set(what, least[what]), first[what]);
            due("2: least of " + what, x.set(what, most[what]), least[what]);
            due("2: most of " + what, x.set(what, most[what]), most[what]);
            for (int other = 0; other <= 6; other++) {
                due("2: setting " + other + " besides " + what, x.count(6 + other),
                        other == what ? most[what] : first[other]);
            }
            due("2: states", x.count(13), 3);
        }
    }

    private static void promise2ErrorsChangeNothing() {
        IceTongue x = new IceTongue();
        due("2: set(-1, 5)", x.set(-1, 5), INVALID);
        due("2: set(7, 5)", x.set(7, 5), INVALID);
        due("2: set(MIN, MIN)", x.set(Integer.MIN_VALUE, Integer.MIN_VALUE), INVALID);
        due("2: set(MAX, MAX)", x.set(Integer.MAX_VALUE, Integer.MAX_VALUE), INVALID);
        due("2: set(0, MIN)", x.set(0, Integer.MIN_VALUE), INVALID);
        due("2: set(5, 0)", x.set(5, 0), INVALID);
        due("2: states", x.count(13), 0);
        due("2: count(6)", x.count(6), 1000);
        due("2: count(11)", x.count(11), 500);
    }

    private static void promise3Band() {
        IceTongue x = new IceTongue();
        due("3: band(5000, 5000, 500, 1000000)", x.band(5000, 5000, 500, 1000000), 0);
        due("3: band(4999, 100, 0, 0)", x.band(4999, 100, 0, 0), 1);
        due("3: bandInfo(0, 3)", x.bandInfo(0, 3), 1000000);
        due("3: bandInfo(1, 3)", x.bandInfo(1, 3), 0);
        due("3: bandInfo(1, 4)", x.bandInfo(1, 4), 0);
        due("3: account(0)", x.account(0), 1000000);
        due("3: years(3)", x.years(3), 0);
        due("3: band(1000, 100, 0, 9)", x.band(1000, 100, 0, 9), 2);
        due("3: layer(2, 0, 0)", x.layer(2, 0, 0), 3);
        due("3: layer(2, 0, 1)", x.layer(2, 0, 1), 9);
        for (int i = 3; i < 9; i++) {
            due("3: band " + i, x.band(1000 - i, 100, 0, 0), i);
        }
        due("3: band(0, 100, 0, 0)", x.band(0, 100, 0, 0), 9);
        due("3: count(0)", x.count(0), 10);
    }

    private static void promise3Errors() {
        IceTongue x = new IceTongue();
        int[][] wrong = {
            {-1, 100, 0, 0}, {5001, 100, 0, 0}, {0, 99, 0, 0}, {0, 5001, 0, 0},
            {0, 100, -1, 0}, {0, 100, 501, 0}, {0, 100, 0, -1}, {0, 100, 0, 1000001},
            {Integer.MIN_VALUE, 100, 0, 0}, {0, Integer.MAX_VALUE, 0, 0},
        };
        for (int[] w : wrong) {
            due("3: " + java.util.Arrays.toString(w), x.band(w[0], w[1], w[2], w[3]), INVALID);
        }
        due("3: count(0)", x.count(0), 0);
        due("3: count(13)", x.count(13), 0);
        due("3: account(0)", x.account(0), 0);
        x.band(3000, 100, 0, 0);
        due("3: same height", x.band(3000, 100, 0, 0), NOT_POSSIBLE);
        due("3: greater height", x.band(3001, 100, 0, 0), NOT_POSSIBLE);
        due("3: invalid ahead of not possible", x.band(3000, 99, 0, 0), INVALID);
        for (int i = 1; i < 10; i++) {
            due("3: band " + i, x.band(3000 - i, 100, 0, 0), i);
        }
        due("3: an eleventh one", x.band(5, 100, 0, 0), LIMIT);
        due("3: not possible ahead of the limit", x.band(2991, 100, 0, 0), NOT_POSSIBLE);
        due("3: invalid ahead of the limit", x.band(5, 100, 0, -1), INVALID);
        due("3: count(0)", x.count(0), 10);
    }

    private static void promise4Creep() {
        IceTongue x = flat(0, 0);
        x.band(3000, 1000, 100, 1000);
        x.band(2000, 1000, 300, 0);
        due("4: creep(0, 501)", x.creep(0, 501), INVALID);
        due("4: creep(0, -1)", x.creep(0, -1), INVALID);
        due("4: creep(2, 5)", x.creep(2, 5), INVALID);
        due("4: creep(-1, 5)", x.creep(-1, 5), INVALID);
        due("4: bandInfo(0, 2)", x.bandInfo(0, 2), 100);
        due("4: creep(0, 500)", x.creep(0, 500), 100);
        due("4: creep(0, 500) again", x.creep(0, 500), 500);
        due("4: creep(1, 0)", x.creep(1, 0), 300);
        due("4: bandInfo(0, 2)", x.bandInfo(0, 2), 500);
        due("4: bandInfo(1, 2)", x.bandInfo(1, 2), 0);
        x.years(1);
        due("4: bandInfo(0, 10)", x.bandInfo(0, 10), 500);
        due("4: undo()", x.undo(), 3);
        due("4: undo()", x.undo(), 2);
        due("4: bandInfo(1, 2) undone", x.bandInfo(1, 2), 300);
    }

    private static void promise5Settings() {
        IceTongue x = new IceTongue();
        x.band(3000, 1000, 100, 0);
        x.band(2499, 700, 200, 5);
        x.band(10, 600, 300, 6);
        due("5: height", x.bandInfo(1, 0), 2499);
        due("5: length", x.bandInfo(1, 1), 700);
        due("5: creep", x.bandInfo(1, 2), 200);
        due("5: ice", x.bandInfo(1, 3), 5);
        due("5: layers", x.bandInfo(1, 4), 1);
        due("5: oldest", x.bandInfo(1, 5), 0);
        due("5: latest", x.bandInfo(1, 6), 0);
        due("5: oldest of no ice", x.bandInfo(0, 5), NOT_FOUND);
        due("5: latest of no ice", x.bandInfo(0, 6), NOT_FOUND);
        // 50 * 500 / 100 = 250; 100 * 500 / 100 = 500
        due("5: snow of 3000", x.bandInfo(0, 7), 1250);
        due("5: melt of 3000", x.bandInfo(0, 8), 1000);
        // 50 * -1 / 100 is -0.5, down to -1
        due("5: snow of 2499", x.bandInfo(1, 7), 999);
        due("5: melt of 2499", x.bandInfo(1, 8), 1501);
        // 50 * -2490 / 100 = -1245: less than 0 in all
        due("5: snow of 10", x.bandInfo(2, 7), 0);
        due("5: melt of 10", x.bandInfo(2, 8), 3990);
        x.set(3, 333);
        // 333 * -1 / 100 is -3.33, down to -4; 333 * 500 / 100 = 1665
        due("5: melt of 2499", x.bandInfo(1, 8), 1504);
        due("5: melt of 3000", x.bandInfo(0, 8), 0);
        x.set(1, 333);
        // -4
        due("5: snow of 2499", x.bandInfo(1, 7), 996);
        // 333 * 1 / 100 is 3.33, down to 3
        x.set(4, 2498);
        due("5: snow of 2499", x.bandInfo(1, 7), 1003);
        due("5: melt of 2499", x.bandInfo(1, 8), 1497);
    }

    private static void promise5YearOfFlatSettings() {
        IceTongue x = flat(100, 30);
        x.band(3000, 1000, 100, 1000);
        x.band(2000, 500, 200, 500);
        for (int what = 9; what <= 11; what++) {
            due("5: no year yet, " + what, x.bandInfo(0, what), 0);
        }
        x.years(1);
        // 1000 + 100 - 30 = 1070 gives 107; 500 + 100 - 30 = 570 gives 114 and gets 107
        due("5: melted of 0", x.bandInfo(0, 9), 30);
        due("5: gave of 0", x.bandInfo(0, 10), 107);
        due("5: got of 0", x.bandInfo(0, 11), 0);
        due("5: ice of 0", x.bandInfo(0, 3), 963);
        due("5: melted of 1", x.bandInfo(1, 9), 30);
        due("5: gave of 1", x.bandInfo(1, 10), 114);
        due("5: got of 1", x.bandInfo(1, 11), 107);
        due("5: ice of 1", x.bandInfo(1, 3), 563);
        due("5: layers of 1", x.bandInfo(1, 4), 2);
        due("5: oldest of 1", x.bandInfo(1, 5), 0);
        due("5: latest of 1", x.bandInfo(1, 6), 1);
        x.set(2, 9000);
        x.years(1);
        // All ice melts, and no more: 963 + 100 and 563 + 100.
        due("5: all melted of 0", x.bandInfo(0, 9), 1063);
        due("5: all melted of 1", x.bandInfo(1, 9), 663);
        due("5: gave of 0", x.bandInfo(0, 10), 0);
        due("5: got of 1", x.bandInfo(1, 11), 0);
        due("5: oldest of 1", x.bandInfo(1, 5), NOT_FOUND);
        due("5: latest of 1", x.bandInfo(1, 6), NOT_FOUND);
        x.undo();
        due("5: melted undone", x.bandInfo(0, 9), 30);
        due("5: got undone", x.bandInfo(1, 11), 107);
    }

    private static void promise5BandAddedLater() {
        IceTongue x = flat(100, 30);
        x.band(3000, 1000, 100, 1000);
        x.band(2000, 500, 200, 500);
        x.years(1);
        x.undo();
        x.undo();
        // The band that was undone had a year; the new one had none.
        due("5: band(1900, 500, 200, 0)", x.band(1900, 500, 200, 0), 1);
        for (int what = 9; what <= 11; what++) {
            due("5: no year with it, " + what, x.bandInfo(1, what), 0);
        }
        due("5: bandInfo(1, 3)", x.bandInfo(1, 3), 0);
        due("5: bandInfo(1, 4)", x.bandInfo(1, 4), 0);
        x.years(1);
        due("5: band(1800, 500, 200, 8)", x.band(1800, 500, 200, 8), 2);
        for (int what = 9; what <= 11; what++) {
            due("5: no year with the last one, " + what, x.bandInfo(2, what), 0);
        }
        due("5: melted", x.bandInfo(1, 9), 30);
        // What the one above gave before the last one came has gone to the front.
        due("5: gave", x.bandInfo(1, 10), 14);
        due("5: front(0)", x.front(0), 14);
    }

    private static void promise5BandAddedWhereAnotherWas() {
        IceTongue x = flat(100, 30);
        x.band(3000, 1000, 100, 1000);
        x.band(2000, 500, 200, 500);
        x.years(2);
        x.undo();
        x.undo();
        // Whatever holds the states was filled with two bands of some years by now.
        for (int i = 0; i < 6; i++) {
            x.set(6, i);
            x.set(6, i);
            x.undo();
            due("5: band(1000, 100, 0, 0)", x.band(1000, 100, 0, 0), 1);
            int[] want = {1000, 100, 0, 0, 0, NOT_FOUND, NOT_FOUND, 100, 30, 0, 0, 0};
            for (int what = 0; what < want.length; what++) {
                due("5: of a new band, " + what, x.bandInfo(1, what), want[what]);
            }
            due("5: stake(1, 0, 5)", x.stake(1, 0, 5), 0);
            x.years(1);
            due("5: bandInfo(1, 5)", x.bandInfo(1, 5), 0);
            due("5: bandInfo(1, 6)", x.bandInfo(1, 6), 1);
            due("5: bandInfo(1, 3)", x.bandInfo(1, 3), 70 + 107);
            due("5: stakeInfo(0, 3)", x.stakeInfo(0, 3), 70);
            due("5: stakeInfo(0, 5)", x.stakeInfo(0, 5), 1);
            x.undo();
            due("5: stakeInfo(0, 5) undone", x.stakeInfo(0, 5), 0);
            x.undo();
            x.undo();
            due("5: bands", x.count(0), 1);
        }
    }

    private static void promise5Errors() {
        IceTongue x = new IceTongue();
        due("5: bandInfo(0, 0) without bands", x.bandInfo(0, 0), INVALID);
        x.band(3000, 1000, 100, 0);
        due("5: bandInfo(0, -1)", x.bandInfo(0, -1), INVALID);
        due("5: bandInfo(0, 12)", x.bandInfo(0, 12), INVALID);
        due("5: bandInfo(1, 0)", x.bandInfo(1, 0), INVALID);
        due("5: bandInfo(1, 5)", x.bandInfo(1, 5), INVALID);
        due("5: bandInfo(-1, 0)", x.bandInfo(-1, 0), INVALID);
        due("5: bandInfo(MAX, MAX)", x.bandInfo(Integer.MAX_VALUE, Integer.MAX_VALUE), INVALID);
        due("5: bandInfo(MIN, 0)", x.bandInfo(Integer.MIN_VALUE, 0), INVALID);
    }

    private static void promise6Layer() {
        IceTongue x = flat(10, 0);
        x.band(3000, 1000, 0, 1000);
        x.years(2);
        for (int i = 0; i < 3; i++) {
            due("6: year of " + i, x.layer(0, i, 0), i);
            due("6: amount of " + i, x.layer(0, i, 1), i == 0 ? 1000 : 10);
        }
        due("6: layer(0, 3, 0)", x.layer(0, 3, 0), NOT_FOUND);
        due("6: layer(0, 3, 1)", x.layer(0, 3, 1), NOT_FOUND);
        due("6: layer(0, MAX, 1)", x.layer(0, Integer.MAX_VALUE, 1), NOT_FOUND);
        due("6: layer(0, -1, 1)", x.layer(0, -1, 1), INVALID);
        due("6: layer(0, MIN, 1)", x.layer(0, Integer.MIN_VALUE, 1), INVALID);
        due("6: layer(0, 3, 2)", x.layer(0, 3, 2), INVALID);
        due("6: layer(0, 0, -1)", x.layer(0, 0, -1), INVALID);
        due("6: layer(1, 0, 0)", x.layer(1, 0, 0), INVALID);
        due("6: layer(-1, 0, 0)", x.layer(-1, 0, 0), INVALID);
        x.set(0, 0);
        x.years(1);
        due("6: no snow, no layer", x.layer(0, 3, 0), NOT_FOUND);
        x.set(0, 4);
        x.years(1);
        due("6: layers lie without the year that had none", x.layer(0, 3, 0), 4);
        due("6: its amount", x.layer(0, 3, 1), 4);
        due("6: layers", x.bandInfo(0, 4), 4);
    }

    private static void promise6MeltAndCreepOfLayers() {
        IceTongue x = flat(100, 0);
        x.band(3000, 1000, 0, 50);
        x.band(2000, 1000, 0, 0);
        x.years(2);
        // Layers of both bands: 0: 50 (only the first), 1: 100, 2: 100.
        x.set(2, 130);
        x.set(0, 0);
        x.creep(0, 500);
        x.years(1);
        // 130 melt of 2 and 1: 50 and 70 are left; half of 120 is given: 50 of 0 and 10 of 1.
        due("6: first band's layers", x.bandInfo(0, 4), 1);
        due("6: first band's year", x.layer(0, 0, 0), 1);
        due("6: first band's amount", x.layer(0, 0, 1), 60);
        // The second band has 70 of 1 left, and gets.
        due("6: second band's layers", x.bandInfo(1, 4), 2);
        due("6: second band's year", x.layer(1, 0, 0), 0);
        due("6: second band's amount", x.layer(1, 0, 1), 50);
        due("6: second band's next year", x.layer(1, 1, 0), 1);
        due("6: second band's next amount", x.layer(1, 1, 1), 80);
    }

    private static void promise7OfYear() {
        IceTongue x = flat(10, 0);
        x.band(3000, 1000, 0, 1000);
        x.band(2000, 1000, 0, 500);
        x.years(2);
        x.band(1000, 1000, 0, 7);
        due("7: ofYear(0)", x.ofYear(0), 1500);
        due("7: ofYear(1)", x.ofYear(1), 20);
        due("7: ofYear(2)", x.ofYear(2), 27);
        due("7: ofYear(3)", x.ofYear(3), 0);
        due("7: ofYear(500)", x.ofYear(500), 0);
        due("7: ofYear(501)", x.ofYear(501), INVALID);
        due("7: ofYear(-1)", x.ofYear(-1), INVALID);
        due("7: ofYear(MIN)", x.ofYear(Integer.MIN_VALUE), INVALID);
        // Ice of the front is of no year.
        x.creep(2, 500);
        x.years(1);
        due("7: front(0)", x.front(0), 8);
        due("7: ofYear(2) later", x.ofYear(2), 20);
        due("7: ofYear(3) later", x.ofYear(3), 29);
        x.years(100);
        x.years(100);
        x.years(100);
        x.years(100);
        x.years(97);
        due("7: ofYear(500) at the end", x.ofYear(500), 30);
        due("7: account(4)", x.account(4), x.account(5));
    }

    private static void promise8Line() {
        IceTongue x = new IceTongue();
        due("8: without bands", x.line(), NOT_FOUND);
        x.set(0, 1500);
        x.set(4, 2000);
        // Snow is at least the melt from the middle height on: 1500 and 1500 there.
        x.band(1999, 100, 0, 0);
        due("8: too low", x.line(), NOT_FOUND);
        x.undo();
        x.band(2000, 100, 0, 0);
        due("8: just there", x.line(), 0);
        x.band(1500, 100, 0, 0);
        due("8: the next one is too low", x.line(), 0);
        x.set(2, 750);
        // At 1500: snow 1250, melt 1250.
        due("8: the next one too", x.line(), 1);
        x.set(2, 751);
        due("8: and not", x.line(), 0);
        x.set(1, 0);
        x.set(3, 0);
        due("8: all of them", x.line(), 1);
        x.set(0, 750);
        due("8: none", x.line(), NOT_FOUND);
    }

    private static void promise9Front() {
        IceTongue x = flat(0, 0);
        x.band(3000, 1000, 500, 4001);
        due("9: front(-1)", x.front(-1), INVALID);
        due("9: front(4)", x.front(4), INVALID);
        due("9: front(3)", x.front(3), NOT_FOUND);
        // 2000 are given: 4 whole pieces of 500.
        due("9: years(1)", x.years(1), 4);
        due("9: ice", x.front(0), 0);
        due("9: rest", x.front(1), 2);
        due("9: pieces", x.front(2), 4);
        due("9: latest calving", x.front(3), 1);
        // 1000, 500, 250: the front rests for two years, then it has 1750.
        due("9: years(1)", x.years(1), 0);
        due("9: ice", x.front(0), 1000);
        due("9: rest", x.front(1), 1);
        due("9: years(1)", x.years(1), 0);
        due("9: ice", x.front(0), 1500);
        due("9: rest", x.front(1), 0);
        due("9: latest calving", x.front(3), 1);
        due("9: years(1)", x.years(1), 3);
        due("9: ice", x.front(0), 250);
        due("9: pieces", x.front(2), 7);
        due("9: latest calving", x.front(3), 4);
        due("9: account(3)", x.account(3), 3500);
    }

    private static void promise9Rest() {
        IceTongue x = flat(0, 0);
        x.set(6, 0);
        x.set(5, 100);
        x.band(3000, 1000, 500, 799);
        // Gives 399, 200, 100, 50: without a rest it calves each year, as long as there is a piece.
        due("9: years(1)", x.years(1), 3);
        due("9: rest", x.front(1), 0);
        due("9: ice", x.front(0), 99);
        due("9: years(1)", x.years(1), 2);
        due("9: ice", x.front(0), 99);
        due("9: years(2)", x.years(2), 2);
        due("9: ice", x.front(0), 49);
        due("9: latest calving", x.front(3), 4);
        due("9: years(1)", x.years(1), 0);
        due("9: latest calving", x.front(3), 4);
    }

    private static void promise9ChangedPieceAndRest() {
        IceTongue x = flat(0, 0);
        x.band(3000, 1000, 500, 2000);
        x.set(6, 3);
        due("9: years(1)", x.years(1), 2);
        x.set(6, 0);
        x.set(5, 1);
        due("9: a rest that has begun goes on", x.front(1), 3);
        due("9: years(3)", x.years(3), 0);
        due("9: rest", x.front(1), 0);
        due("9: ice", x.front(0), 875);
        x.set(5, 1000);
        due("9: less than a piece", x.years(1), 0);
        due("9: ice", x.front(0), 937);
        x.set(5, 968);
        due("9: exactly a piece", x.years(1), 1);
        due("9: ice", x.front(0), 0);
    }

    private static void promise10Account() {
        IceTongue x = flat(100, 30);
        x.band(3000, 1000, 100, 1000);
        x.band(2000, 500, 200, 500);
        x.set(5, 100);
        due("10: account(-1)", x.account(-1), INVALID);
        due("10: account(6)", x.account(6), INVALID);
        due("10: years(1)", x.years(1), 1);
        due("10: added", x.account(0), 1500);
        due("10: snow", x.account(1), 200);
        due("10: melted", x.account(2), 60);
        due("10: calved", x.account(3), 100);
        due("10: all ice", x.account(4), 1540);
        due("10: all ice by years", x.account(5), 1540);
        x.set(2, 9000);
        x.years(2);
        due("10: snow", x.account(1), 600);
        // Only what there is melts: 963 + 563 and the snow of two years.
        due("10: melted", x.account(2), 60 + 963 + 563 + 400);
        due("10: all ice", x.account(4), 14);
        due("10: all ice by years", x.account(5), 14);
        x.undo();
        due("10: snow undone", x.account(1), 200);
        due("10: melted undone", x.account(2), 60);
    }

    private static void promise10GreatAmounts() {
        IceTongue x = new IceTongue();
        x.set(0, 5000);
        x.set(1, 500);
        x.set(2, 0);
        x.set(4, 0);
        for (int i = 0; i < 10; i++) {
            x.band(5000 - i, 100, i == 9 ? 500 : 499, 1000000);
        }
        for (int i = 0; i < 5; i++) {
            x.years(100);
        }
        // The snow of band i is 5000 + 500 * (5000 - i) / 100 = 30000 - 5 * i; nothing melts.
        long snow = 500L * (10 * 30000 - 5 * 45);
        due("10: snow of 500 years", x.account(1), snow);
        due("10: melted", x.account(2), 0);
        due("10: all ice", x.account(4), 10000000L + snow - x.account(3));
        due("10: all ice by years", x.account(5), x.account(4));
        due("10: pieces", x.front(2) * 500L, x.account(3));
        due("10: ifYears(100, 0)", x.ifYears(100, 0) + x.ifYears(100, 1) * 500L,
                x.account(4) + 100 * (300000 - 225));
    }

    private static void promise11Count() {
        IceTongue x = flat(100, 0);
        due("11: count(-1)", x.count(-1), INVALID);
        due("11: count(15)", x.count(15), INVALID);
        due("11: count(MIN)", x.count(Integer.MIN_VALUE), INVALID);
        x.band(3000, 1000, 0, 1000);
        x.band(2000, 100, 500, 0);
        x.stake(1, 99, 5);
        x.stake(0, 1, 5);
        x.type('1');
        x.type(',');
        x.years(3);
        due("11: bands", x.count(0), 2);
        due("11: years", x.count(1), 3);
        due("11: stakes", x.count(2), 2);
        due("11: stakes that stand", x.count(3), 1);
        // 0 to 3 in the first; the second gives 50, 75 and 87 of its 100, 150 and 175, the oldest ahead: 88 of 3 are left.
        due("11: layers", x.count(4), 5);
        due("11: layers of the second", x.bandInfo(1, 4), 1);
        due("11: what is left there", x.layer(1, 0, 1), 88);
        due("11: different years", x.count(5), 4);
        int[] settings = {100, 0, 0, 0, 2500, 500, 2};
        for (int what = 0; what <= 6; what++) {
            due("11: setting " + what, x.count(6 + what), settings[what]);
        }
        due("11: states", x.count(13), 4);
        due("11: length of the text", x.count(14), 2);
        x.undo();
        due("11: states", x.count(13), 3);
        due("11: years undone", x.count(1), 0);
        due("11: the text stays", x.count(14), 2);
        due("11: stakes that stand undone", x.count(3), 2);
    }
}
