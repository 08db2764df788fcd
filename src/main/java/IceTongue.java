import java.util.Arrays;

/** A tongue of ice in bands by height; the document that it keeps to is DOC.md. */
public final class IceTongue {
    public static final int INVALID_ARGUMENT = -2000000001;
    public static final int NOT_POSSIBLE = -2000000002;
    public static final int LIMIT_REACHED = -2000000003;
    public static final int NOT_FOUND = -2000000004;

    private static final int MOST_BANDS = 10;
    private static final int MOST_HEIGHT = 5000;
    private static final int LEAST_LENGTH = 100;
    private static final int MOST_LENGTH = 5000;
    private static final int MOST_CREEP = 500;
    private static final int MOST_ICE = 1000000;
    private static final int MOST_STAKES = 6;
    private static final int MOST_DEPTH = 10000;
    private static final int MOST_STATES = 4;
    private static final int MOST_SIGNS = 60;
    private static final int MOST_DIGITS = 4;
    private static final int LAST_YEAR = 500;
    private static final int YEARS_AT_ONCE = 100;
    private static final int YEARS_AHEAD = 300;
    // Years that are only looked at go beyond the last year, so rows of layers need room for them.
    private static final int ROOM_FOR_YEARS = LAST_YEAR + YEARS_AHEAD + 1;

    private static final int SNOW = 0;
    private static final int GROWTH = 1;
    private static final int MELT = 2;
    private static final int FALL = 3;
    private static final int MIDDLE = 4;
    private static final int PIECE = 5;
    private static final int REST = 6;
    private static final int SETTINGS = 7;
    private static final int[] LEAST_SETTING = {0, 0, 0, 0, 0, 1, 0};
    private static final int[] MOST_SETTING = {5000, 500, 9000, 500, 5000, 1000000, 50};
    private static final int[] FIRST_SETTING = {1000, 50, 1500, 100, 2500, 500, 2};

    // The steps from this one down by halves reach every melt up to the greatest one.
    private static final int FIRST_STEP = 8192;

    private static final int STANDS = 0;
    private static final int MELTED_OUT = 1;
    private static final int FALLEN = 2;

    private static final int NO_FAULT = 0;
    private static final int WRONG_FORM = 1;
    private static final int OUT_OF_RANGE = 2;
    private static final int TOO_LATE = 3;

    private final Tongue trial;
    private final Tongue[] history;
    private final Text text;
    private Tongue now;
    private int states;

    public IceTongue() {
        trial = new Tongue();
        history = new Tongue[MOST_STATES];
        for (int i = 0; i < history.length; i++) {
            history[i] = new Tongue();
        }
        text = new Text();
        now = new Tongue();
        states = 0;
    }

    // ---- bands

    public int set(int what, int value) {
        if (!isWithin(what, 0, SETTINGS - 1)) {
            return INVALID_ARGUMENT;
        }
        if (!isWithin(value, LEAST_SETTING[what], MOST_SETTING[what])) {
            return INVALID_ARGUMENT;
        }
        recordState();
        int previous = now.settings[what];
        now.settings[what] = value;
        return previous;
    }

    public int band(int height, int length, int creep, int ice) {
        if (!isWithin(height, 0, MOST_HEIGHT) || !isWithin(length, LEAST_LENGTH, MOST_LENGTH)
                || !isWithin(creep, 0, MOST_CREEP) || !isWithin(ice, 0, MOST_ICE)) {
            return INVALID_ARGUMENT;
        }
        if (!now.isBelowAll(height)) {
            return NOT_POSSIBLE;
        }
        if (now.bandCount >= MOST_BANDS) {
            return LIMIT_REACHED;
        }
        recordState();
        return now.addBand(height, length, creep, ice);
    }

    public int creep(int band, int value) {
        if (!now.hasBand(band) || !isWithin(value, 0, MOST_CREEP)) {
            return INVALID_ARGUMENT;
        }
        recordState();
        int previous = now.bands[band].creep;
        now.bands[band].creep = value;
        return previous;
    }

    public int bandInfo(int band, int what) {
        if (!now.hasBand(band) || !isWithin(what, 0, 11)) {
            return INVALID_ARGUMENT;
        }
        Band asked = now.bands[band];
        switch (what) {
            case 0: return asked.height;
            case 1: return asked.length;
            case 2: return asked.creep;
            case 3: return asked.layers.ice;
            case 4: return asked.layers.number();
            case 5: return asked.layers.ice == 0 ? NOT_FOUND : asked.layers.oldest;
            case 6: return asked.layers.ice == 0 ? NOT_FOUND : asked.layers.latest;
            case 7: return now.snowAt(asked.height);
            case 8: return now.meltAt(asked.height, now.settings[MELT]);
            case 9: return asked.melted;
            case 10: return asked.gave;
            default: return asked.got;
        }
    }

    public int layer(int band, int index, int what) {
        if (!now.hasBand(band) || index < 0 || !isWithin(what, 0, 1)) {
            return INVALID_ARGUMENT;
        }
        Layers layers = now.bands[band].layers;
        int year = layers.yearOfLayer(index);
        if (year < 0) {
            return NOT_FOUND;
        }
        return what == 0 ? year : layers.leftOf(year);
    }

    public int ofYear(int year) {
        if (!isWithin(year, 0, LAST_YEAR)) {
            return INVALID_ARGUMENT;
        }
        return now.leftOf(year);
    }

    public int line() {
        for (int i = now.bandCount - 1; i >= 0; i--) {
            int height = now.bands[i].height;
            if (now.snowAt(height) >= now.meltAt(height, now.settings[MELT])) {
                return i;
            }
        }
        return NOT_FOUND;
    }

    public int front(int what) {
        if (!isWithin(what, 0, 3)) {
            return INVALID_ARGUMENT;
        }
        switch (what) {
            case 0: return now.front.ice;
            case 1: return now.front.rest;
            case 2: return now.front.pieces;
            default: return now.front.pieces == 0 ? NOT_FOUND : now.front.latestCalving;
        }
    }

    public long account(int what) {
        if (!isWithin(what, 0, 5)) {
            return INVALID_ARGUMENT;
        }
        switch (what) {
            case 0: return now.added;
            case 1: return now.snowed;
            case 2: return now.melted;
            case 3: return now.calved;
            case 4: return now.allIce();
            default: return now.allIceByYears();
        }
    }

    public int count(int what) {
        if (!isWithin(what, 0, 14)) {
            return INVALID_ARGUMENT;
        }
        if (isWithin(what, 6, 12)) {
            return now.settings[what - 6];
        }
        switch (what) {
            case 0: return now.bandCount;
            case 1: return now.year;
            case 2: return now.stakeCount;
            case 3: return now.standingStakes();
            case 4: return now.layersOfAllBands();
            case 5: return now.differentYears();
            case 13: return states;
            default: return text.length;
        }
    }

    // ---- stakes

    public int stake(int band, int place, int depth) {
        if (!now.hasBand(band) || !isWithin(place, 0, now.bands[band].length - 1)
                || !isWithin(depth, 1, MOST_DEPTH)) {
            return INVALID_ARGUMENT;
        }
        if (now.isStakeAt(band, place)) {
            return NOT_POSSIBLE;
        }
        if (now.stakeCount >= MOST_STAKES) {
            return LIMIT_REACHED;
        }
        recordState();
        return now.addStake(band, place, depth);
    }

    public int pull(int stake) {
        if (!now.hasStake(stake)) {
            return INVALID_ARGUMENT;
        }
        recordState();
        return now.removeStake(stake);
    }

    public int stakeInfo(int stake, int what) {
        if (!now.hasStake(stake) || !isWithin(what, 0, 5)) {
            return INVALID_ARGUMENT;
        }
        Stake asked = now.stakes[stake];
        switch (what) {
            case 0: return asked.band;
            case 1: return asked.place;
            case 2: return asked.depth;
            case 3: return asked.change;
            case 4: return asked.fate;
            default: return asked.years;
        }
    }

    public int stakesIn(int band) {
        if (!now.hasBand(band)) {
            return INVALID_ARGUMENT;
        }
        int mask = 0;
        for (int i = 0; i < now.stakeCount; i++) {
            if (now.stakes[i].fate == STANDS && now.stakes[i].band == band) {
                mask |= 1 << i;
            }
        }
        return mask;
    }

    // ---- years

    public int years(int years) {
        if (!isWithin(years, 1, YEARS_AT_ONCE)) {
            return INVALID_ARGUMENT;
        }
        if (now.bandCount == 0) {
            return NOT_POSSIBLE;
        }
        if (now.year + years > LAST_YEAR) {
            return LIMIT_REACHED;
        }
        recordState();
        int before = now.front.pieces;
        now.letYearsGoBy(years);
        return now.front.pieces - before;
    }

    public int ifYears(int years, int what) {
        if (!isWithin(years, 1, YEARS_AT_ONCE) || !isWithin(what, 0, 4)) {
            return INVALID_ARGUMENT;
        }
        if (now.bandCount == 0) {
            return NOT_POSSIBLE;
        }
        trial.copyFrom(now);
        trial.letYearsGoBy(years);
        switch (what) {
            case 0: return (int) trial.allIce();
            case 1: return trial.front.pieces - now.front.pieces;
            case 2: return (int) (trial.melted - now.melted);
            case 3: return trial.standingStakes();
            default: return trial.bandIce() == 0 ? NOT_FOUND : trial.oldestYear();
        }
    }

    public int yearsTo(int what) {
        if (!isWithin(what, 0, 2)) {
            return INVALID_ARGUMENT;
        }
        if (now.bandCount == 0) {
            return NOT_POSSIBLE;
        }
        trial.copyFrom(now);
        for (int passed = 1; passed <= YEARS_AHEAD; passed++) {
            int piecesBefore = trial.front.pieces;
            trial.letYearGoBy();
            if (isSoInTrial(what, piecesBefore)) {
                return passed;
            }
        }
        return NOT_FOUND;
    }

    private boolean isSoInTrial(int what, int piecesBefore) {
        switch (what) {
            case 0: return trial.front.pieces > piecesBefore;
            case 1: return trial.bandIce() == 0;
            default: return trial.standingStakes() == 0;
        }
    }

    public int steadyMelt() {
        if (now.bandCount == 0) {
            return NOT_POSSIBLE;
        }
        if (!now.snowOutweighsMelt(LEAST_SETTING[MELT])) {
            return NOT_FOUND;
        }
        // The melt of all bands never falls as the setting grows, so steps that are halved find the greatest.
        int melt = LEAST_SETTING[MELT];
        for (int step = FIRST_STEP; step > 0; step /= 2) {
            if (melt + step <= MOST_SETTING[MELT] && now.snowOutweighsMelt(melt + step)) {
                melt += step;
            }
        }
        return melt;
    }

    public int undo() {
        if (states == 0) {
            return NOT_POSSIBLE;
        }
        states--;
        Tongue restored = history[states];
        history[states] = now;
        now = restored;
        return states;
    }

    private void recordState() {
        if (states >= MOST_STATES) {
            dropOldestState();
        }
        history[states].copyFrom(now);
        states++;
    }

    private void dropOldestState() {
        Tongue oldest = history[0];
        for (int i = 1; i < history.length; i++) {
            history[i - 1] = history[i];
        }
        // The dropped object is kept at the end, to be written again: nothing is made anew.
        history[MOST_STATES - 1] = oldest;
        states = MOST_STATES - 1;
    }

    // ---- texts

    public int type(int character) {
        if (!isWithin(character, 32, 126)) {
            return INVALID_ARGUMENT;
        }
        if (text.length >= MOST_SIGNS) {
            return LIMIT_REACHED;
        }
        text.append((char) character);
        return text.length;
    }

    public int clearText() {
        int previous = text.length;
        text.length = 0;
        return previous;
    }

    public int fault(int what) {
        if (!isWithin(what, 0, 1)) {
            return INVALID_ARGUMENT;
        }
        int possible = possibleYears();
        int at = text.startOfYear(possible);
        if (at >= text.length) {
            return NOT_FOUND;
        }
        return what == 0 ? at : reasonAt(at, possible);
    }

    public int live() {
        int possible = possibleYears();
        if (text.startOfYear(possible) < text.length || now.bandCount == 0) {
            return NOT_POSSIBLE;
        }
        recordState();
        int at = 0;
        for (int i = 0; i < possible; i++) {
            now.settings[SNOW] = text.snowOfYear(at);
            now.settings[MELT] = text.meltOfYear(at);
            now.letYearGoBy();
            at = text.endOfYear(at);
        }
        return possible;
    }

    // How many years of the text are possible before the first one that is not.
    private int possibleYears() {
        int at = 0;
        for (int possible = 0; possible < MOST_SIGNS; possible++) {
            if (at >= text.length || reasonAt(at, possible) != NO_FAULT) {
                return possible;
            }
            at = text.endOfYear(at);
        }
        return MOST_SIGNS;
    }

    private int reasonAt(int at, int yearsBefore) {
        if (text.endOfYear(at) < 0) {
            return WRONG_FORM;
        }
        if (!isWithin(text.snowOfYear(at), LEAST_SETTING[SNOW], MOST_SETTING[SNOW])
                || !isWithin(text.meltOfYear(at), LEAST_SETTING[MELT], MOST_SETTING[MELT])) {
            return OUT_OF_RANGE;
        }
        return now.year + yearsBefore + 1 > LAST_YEAR ? TOO_LATE : NO_FAULT;
    }

    private static boolean isWithin(int value, int least, int most) {
        return value >= least && value <= most;
    }

    /** What is left of each year in a band. */
    private static final class Layers {
        final int[] left = new int[ROOM_FOR_YEARS];
        int ice = 0;
        // Without ice the oldest year is above the latest one, so that no loop over the years runs.
        int oldest = ROOM_FOR_YEARS;
        int latest = -1;

        void copyFrom(Layers other) {
            System.arraycopy(other.left, 0, left, 0, ROOM_FOR_YEARS);
            ice = other.ice;
            oldest = other.oldest;
            latest = other.latest;
        }

        void empty() {
            Arrays.fill(left, 0);
            ice = 0;
            narrow();
        }

        void add(int year, int amount) {
            if (amount <= 0 || year < 0 || year >= ROOM_FOR_YEARS) {
                return;
            }
            left[year] += amount;
            ice += amount;
            oldest = Math.min(oldest, year);
            latest = Math.max(latest, year);
        }

        int takeFromLatest(int wanted) {
            int taken = Math.min(wanted, ice);
            int rest = taken;
            for (int year = latest; year >= oldest && rest > 0; year--) {
                rest -= takeOfYear(year, rest);
            }
            narrow();
            return taken;
        }

        // The receiver is null where the ice goes to the front, which knows no years.
        void giveFromOldest(int wanted, Layers receiver) {
            int rest = Math.min(wanted, ice);
            for (int year = oldest; year <= latest && rest > 0; year++) {
                int part = takeOfYear(year, rest);
                rest -= part;
                if (receiver != null) {
                    receiver.add(year, part);
                }
            }
            narrow();
        }

        private int takeOfYear(int year, int wanted) {
            int part = Math.min(leftOf(year), wanted);
            if (part > 0) {
                left[year] -= part;
                ice -= part;
            }
            return part;
        }

        private void narrow() {
            if (ice == 0) {
                oldest = ROOM_FOR_YEARS;
                latest = -1;
            }
            while (oldest < latest && leftOf(oldest) == 0) {
                oldest++;
            }
            while (latest > oldest && leftOf(latest) == 0) {
                latest--;
            }
        }

        int leftOf(int year) {
            return year >= 0 && year < ROOM_FOR_YEARS ? left[year] : 0;
        }

        int number() {
            int number = 0;
            for (int year = oldest; year <= latest; year++) {
                if (leftOf(year) > 0) {
                    number++;
                }
            }
            return number;
        }

        // -1 if there are not so many layers.
        int yearOfLayer(int index) {
            int before = 0;
            for (int year = oldest; year <= latest; year++) {
                if (leftOf(year) > 0) {
                    if (before == index) {
                        return year;
                    }
                    before++;
                }
            }
            return -1;
        }
    }

    /** A band, with what happened to it in the latest year. */
    private static final class Band {
        final Layers layers = new Layers();
        int height = 0;
        int length = 0;
        int creep = 0;
        int melted = 0;
        int gave = 0;
        int got = 0;

        void begin(int newHeight, int newLength, int newCreep) {
            height = newHeight;
            length = newLength;
            creep = newCreep;
            melted = 0;
            gave = 0;
            got = 0;
            layers.empty();
        }

        void copyFrom(Band other) {
            layers.copyFrom(other.layers);
            height = other.height;
            length = other.length;
            creep = other.creep;
            melted = other.melted;
            gave = other.gave;
            got = other.got;
        }

        int iceToGive() {
            return (int) ((long) layers.ice * creep / 1000);
        }

        int way() {
            return length * creep / 1000;
        }
    }

    /** The front, which gathers the ice of the last band. */
    private static final class Front {
        int ice = 0;
        int rest = 0;
        int pieces = 0;
        int latestCalving = 0;

        void copyFrom(Front other) {
            ice = other.ice;
            rest = other.rest;
            pieces = other.pieces;
            latestCalving = other.latestCalving;
        }

        // Answers the ice that calved.
        int calve(int piece, int restAfter, int year) {
            if (rest > 0) {
                rest--;
                return 0;
            }
            if (piece <= 0 || ice < piece) {
                return 0;
            }
            int whole = ice / piece;
            pieces += whole;
            ice -= whole * piece;
            rest = restAfter;
            latestCalving = year;
            return whole * piece;
        }
    }

    /** A stake; when it stands no more, band and place tell where it stood last. */
    private static final class Stake {
        int band = 0;
        int place = 0;
        int depth = 0;
        int change = 0;
        int fate = STANDS;
        int years = 0;

        void begin(int newBand, int newPlace, int newDepth) {
            band = newBand;
            place = newPlace;
            depth = newDepth;
            change = 0;
            fate = STANDS;
            years = 0;
        }

        void copyFrom(Stake other) {
            band = other.band;
            place = other.place;
            depth = other.depth;
            change = other.change;
            fate = other.fate;
            years = other.years;
        }
    }

    /** All that a change records: everything but the text. */
    private static final class Tongue {
        final int[] settings = FIRST_SETTING.clone();
        final Band[] bands = new Band[MOST_BANDS];
        final Stake[] stakes = new Stake[MOST_STAKES];
        final Front front = new Front();
        int bandCount = 0;
        int stakeCount = 0;
        int year = 0;
        long added = 0;
        long snowed = 0;
        long melted = 0;
        long calved = 0;

        Tongue() {
            for (int i = 0; i < bands.length; i++) {
                bands[i] = new Band();
            }
            for (int i = 0; i < stakes.length; i++) {
                stakes[i] = new Stake();
            }
        }

        // Bands and stakes beyond the numbers are not copied: they begin anew when they are added.
        void copyFrom(Tongue other) {
            System.arraycopy(other.settings, 0, settings, 0, SETTINGS);
            for (int i = 0; i < other.bandCount; i++) {
                bands[i].copyFrom(other.bands[i]);
            }
            for (int i = 0; i < other.stakeCount; i++) {
                stakes[i].copyFrom(other.stakes[i]);
            }
            front.copyFrom(other.front);
            bandCount = other.bandCount;
            stakeCount = other.stakeCount;
            year = other.year;
            added = other.added;
            snowed = other.snowed;
            melted = other.melted;
            calved = other.calved;
        }

        boolean hasBand(int number) {
            return number >= 0 && number < bandCount;
        }

        boolean hasStake(int number) {
            return number >= 0 && number < stakeCount;
        }

        boolean isBelowAll(int height) {
            return bandCount == 0 || height < bands[bandCount - 1].height;
        }

        int addBand(int height, int length, int creep, int ice) {
            int number = bandCount;
            bands[number].begin(height, length, creep);
            bands[number].layers.add(year, ice);
            bandCount++;
            added += ice;
            return number;
        }

        boolean isStakeAt(int band, int place) {
            for (int i = 0; i < stakeCount; i++) {
                if (stakes[i].fate == STANDS && stakes[i].band == band && stakes[i].place == place) {
                    return true;
                }
            }
            return false;
        }

        int addStake(int band, int place, int depth) {
            int number = stakeCount;
            stakes[number].begin(band, place, depth);
            stakeCount++;
            return number;
        }

        int removeStake(int number) {
            Stake removed = stakes[number];
            for (int i = number; i + 1 < stakeCount; i++) {
                stakes[i] = stakes[i + 1];
            }
            stakeCount--;
            stakes[stakeCount] = removed;
            return removed.change;
        }

        int standingStakes() {
            int standing = 0;
            for (int i = 0; i < stakeCount; i++) {
                if (stakes[i].fate == STANDS) {
                    standing++;
                }
            }
            return standing;
        }

        int snowAt(int height) {
            int more = Math.floorDiv(settings[GROWTH] * (height - settings[MIDDLE]), 100);
            return Math.max(0, settings[SNOW] + more);
        }

        int meltAt(int height, int meltAtMiddle) {
            int less = Math.floorDiv(settings[FALL] * (height - settings[MIDDLE]), 100);
            return Math.max(0, meltAtMiddle - less);
        }

        boolean snowOutweighsMelt(int meltAtMiddle) {
            int balance = 0;
            for (int i = 0; i < bandCount; i++) {
                balance += snowAt(bands[i].height) - meltAt(bands[i].height, meltAtMiddle);
            }
            return balance >= 0;
        }

        int leftOf(int ofYear) {
            int left = 0;
            for (int i = 0; i < bandCount; i++) {
                left += bands[i].layers.leftOf(ofYear);
            }
            return left;
        }

        int bandIce() {
            int ice = 0;
            for (int i = 0; i < bandCount; i++) {
                ice += bands[i].layers.ice;
            }
            return ice;
        }

        long allIce() {
            return (long) bandIce() + front.ice;
        }

        long allIceByYears() {
            long ice = front.ice;
            for (int y = 0; y <= year; y++) {
                ice += leftOf(y);
            }
            return ice;
        }

        int layersOfAllBands() {
            int number = 0;
            for (int i = 0; i < bandCount; i++) {
                number += bands[i].layers.number();
            }
            return number;
        }

        int differentYears() {
            int number = 0;
            for (int y = 0; y <= year; y++) {
                if (leftOf(y) > 0) {
                    number++;
                }
            }
            return number;
        }

        int oldestYear() {
            int oldest = ROOM_FOR_YEARS;
            for (int i = 0; i < bandCount; i++) {
                oldest = Math.min(oldest, bands[i].layers.oldest);
            }
            return oldest;
        }

        void letYearsGoBy(int number) {
            for (int i = 0; i < number; i++) {
                letYearGoBy();
            }
        }

        void letYearGoBy() {
            year++;
            for (int i = 0; i < bandCount; i++) {
                snowAndMelt(bands[i]);
            }
            creepDown();
            calved += front.calve(settings[PIECE], settings[REST], year);
            for (int i = 0; i < stakeCount; i++) {
                if (stakes[i].fate == STANDS) {
                    ride(stakes[i]);
                }
            }
        }

        private void snowAndMelt(Band band) {
            int snow = snowAt(band.height);
            band.layers.add(year, snow);
            snowed += snow;
            band.melted = band.layers.takeFromLatest(meltAt(band.height, settings[MELT]));
            melted += band.melted;
        }

        // From the last band up, each one has given before it gets.
        private void creepDown() {
            for (int i = bandCount - 1; i >= 0; i--) {
                Band giver = bands[i];
                giver.gave = giver.iceToGive();
                if (i + 1 < bandCount) {
                    giver.layers.giveFromOldest(giver.gave, bands[i + 1].layers);
                    bands[i + 1].got = giver.gave;
                } else {
                    giver.layers.giveFromOldest(giver.gave, null);
                    front.ice += giver.gave;
                }
            }
        }

        private void ride(Stake stake) {
            if (!hasBand(stake.band)) {
                return;
            }
            Band band = bands[stake.band];
            stake.years++;
            stake.change += snowAt(band.height) - band.melted;
            if (stake.change < -stake.depth) {
                stake.fate = MELTED_OUT;
            } else {
                moveDown(stake, stake.place + band.way());
            }
        }

        // A stake that falls keeps the band and the place ahead of this move.
        private void moveDown(Stake stake, int way) {
            int place = way;
            for (int i = stake.band; i < bandCount; i++) {
                if (place < bands[i].length) {
                    stake.band = i;
                    stake.place = place;
                    return;
                }
                place -= bands[i].length;
            }
            stake.fate = FALLEN;
        }
    }

    /** The text, read year by year: a year begins at a place and ends behind its semicolon. */
    private static final class Text {
        final char[] signs = new char[MOST_SIGNS];
        int length = 0;

        void append(char sign) {
            if (length < MOST_SIGNS) {
                signs[length] = sign;
                length++;
            }
        }

        private boolean isSignAt(int at, char sign) {
            return at >= 0 && at < length && signs[at] == sign;
        }

        private boolean isDigitAt(int at) {
            return at >= 0 && at < length && signs[at] >= '0' && signs[at] <= '9';
        }

        // -1 if no number of 1 to 4 digits begins there.
        private int endOfNumber(int at) {
            int end = at;
            while (end < length && isDigitAt(end)) {
                end++;
            }
            return end - at >= 1 && end - at <= MOST_DIGITS ? end : -1;
        }

        private int numberAt(int at) {
            int end = endOfNumber(at);
            int number = 0;
            for (int i = at; i >= 0 && i < end; i++) {
                number = number * 10 + (signs[i] - '0');
            }
            return number;
        }

        // -1 if no year of the right form begins there.
        int endOfYear(int at) {
            int comma = endOfNumber(at);
            if (!isSignAt(comma, ',')) {
                return -1;
            }
            int semicolon = endOfNumber(comma + 1);
            return isSignAt(semicolon, ';') ? semicolon + 1 : -1;
        }

        int snowOfYear(int at) {
            return numberAt(at);
        }

        int meltOfYear(int at) {
            return numberAt(endOfNumber(at) + 1);
        }

        // The years before must be of the right form.
        int startOfYear(int index) {
            int at = 0;
            for (int i = 0; i < index && at >= 0; i++) {
                at = endOfYear(at);
            }
            return at;
        }
    }
}
