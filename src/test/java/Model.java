import java.util.ArrayDeque;
import java.util.ArrayList;
import java.util.Deque;
import java.util.List;
import java.util.TreeMap;
import java.util.TreeSet;
import java.util.regex.Matcher;
import java.util.regex.Pattern;

/**
 * The document written a second time, line by line, with maps and copies, to compare the class with.
 * It knows nothing of how the class does it.
 */
final class Model {
    static final int INVALID = -2000000001;
    static final int NOT_POSSIBLE = -2000000002;
    static final int LIMIT = -2000000003;
    static final int NOT_FOUND = -2000000004;
    private static final int[] LEAST = {0, 0, 0, 0, 0, 1, 0};
    private static final int[] MOST = {5000, 500, 9000, 500, 5000, 1000000, 50};
    private static final Pattern YEAR = Pattern.compile("([0-9]{1,4}),([0-9]{1,4});");

    private static final class MBand {
        long height;
        long length;
        long creep;
        long melted;
        long gave;
        long got;
        TreeMap<Integer, Long> layers = new TreeMap<>();

        long ice() {
            long sum = 0;
            for (long amount : layers.values()) {
                sum += amount;
            }
            return sum;
        }

        void join(TreeMap<Integer, Long> given) {
            given.forEach((year, amount) -> layers.merge(year, amount, Long::sum));
        }

        /** Takes an amount from the oldest or the latest layers on; answers what was taken by years. */
        TreeMap<Integer, Long> take(long amount, boolean oldest) {
            TreeMap<Integer, Long> taken = new TreeMap<>();
            while (amount > 0 && !layers.isEmpty()) {
                int year = oldest ? layers.firstKey() : layers.lastKey();
                long there = layers.remove(year);
                if (there > amount) {
                    layers.put(year, there - amount);
                    there = amount;
                }
                taken.put(year, there);
                amount -= there;
            }
            return taken;
        }
    }

    private static final class MStake {
        int band;
        long place;
        long depth;
        long change;
        int state;
        int years;
    }

    private static final class State {
        long[] settings = {1000, 50, 1500, 100, 2500, 500, 2};
        List<MBand> bands = new ArrayList<>();
        List<MStake> stakes = new ArrayList<>();
        int y;
        long front;
        long rest;
        long pieces;
        int calvedIn = -1;
        long[] accounts = new long[4];

        State copy() {
            State c = new State();
            c.settings = settings.clone();
            for (MBand b : bands) {
                MBand n = new MBand();
                n.height = b.height;
                n.length = b.length;
                n.creep = b.creep;
                n.melted = b.melted;
                n.gave = b.gave;
                n.got = b.got;
                n.layers = new TreeMap<>(b.layers);
                c.bands.add(n);
            }
            for (MStake s : stakes) {
                MStake n = new MStake();
                n.band = s.band;
                n.place = s.place;
                n.depth = s.depth;
                n.change = s.change;
                n.state = s.state;
                n.years = s.years;
                c.stakes.add(n);
            }
            c.y = y;
            c.front = front;
            c.rest = rest;
            c.pieces = pieces;
            c.calvedIn = calvedIn;
            c.accounts = accounts.clone();
            return c;
        }

        long snow(MBand b) {
            return Math.max(0, settings[0] + Math.floorDiv(settings[1] * (b.height - settings[4]), 100L));
        }

        long melt(MBand b) {
            return Math.max(0, settings[2] - Math.floorDiv(settings[3] * (b.height - settings[4]), 100L));
        }

        long bandIce() {
            long sum = 0;
            for (MBand b : bands) {
                sum += b.ice();
            }
            return sum;
        }

        int standing() {
            int n = 0;
            for (MStake s : stakes) {
                n += s.state == 0 ? 1 : 0;
            }
            return n;
        }

        long ofYear(int year) {
            long sum = 0;
            for (MBand b : bands) {
                sum += b.layers.getOrDefault(year, 0L);
            }
            return sum;
        }

        TreeSet<Integer> yearsOfLayers() {
            TreeSet<Integer> all = new TreeSet<>();
            for (MBand b : bands) {
                all.addAll(b.layers.keySet());
            }
            return all;
        }

        void year() {
            y++;
            for (MBand b : bands) {
                if (snow(b) > 0) {
                    b.layers.put(y, snow(b));
                    accounts[1] += snow(b);
                }
                long before = b.ice();
                b.take(melt(b), false);
                b.melted = before - b.ice();
                accounts[2] += b.melted;
            }
            List<TreeMap<Integer, Long>> given = new ArrayList<>();
            for (MBand b : bands) {
                b.gave = b.ice() * b.creep / 1000;
                given.add(b.take(b.gave, true));
            }
            for (int i = 0; i < bands.size(); i++) {
                bands.get(i).got = i == 0 ? 0 : bands.get(i - 1).gave;
                if (i > 0) {
                    bands.get(i).join(given.get(i - 1));
                }
            }
            if (!bands.isEmpty()) {
                front += bands.get(bands.size() - 1).gave;
            }
            if (rest > 0) {
                rest--;
            } else if (front >= settings[5]) {
                while (front >= settings[5]) {
                    long times = Math.max(1, front / settings[5] / 2);
                    front -= times * settings[5];
                    accounts[3] += times * settings[5];
                    pieces += times;
                }
                calvedIn = y;
                rest = settings[6];
            }
            for (MStake s : stakes) {
                if (s.state == 0) {
                    ride(s);
                }
            }
        }

        void ride(MStake s) {
            MBand b = bands.get(s.band);
            s.years++;
            s.change = s.change + snow(b) - b.melted;
            if (s.change < -s.depth) {
                s.state = 1;
                return;
            }
            int band = s.band;
            long place = s.place + b.length * b.creep / 1000;
            while (place >= bands.get(band).length) {
                place -= bands.get(band).length;
                band++;
                if (band == bands.size()) {
                    s.state = 2;
                    return;
                }
            }
            s.band = band;
            s.place = place;
        }
    }

    private State now = new State();
    private final Deque<State> history = new ArrayDeque<>();
    private String text = "";

    private void change() {
        history.addLast(now.copy());
        if (history.size() > 4) {
            history.removeFirst();
        }
    }

    private boolean noBand(int band) {
        return band < 0 || band >= now.bands.size();
    }

    private boolean noStake(int stake) {
        return stake < 0 || stake >= now.stakes.size();
    }

    private static boolean out(int value, int least, long most) {
        return value < least || value > most;
    }

    /** The call of a number from 0 to 22, in the order of the face. */
    long call(int method, int a, int b, int c, int d) {
        switch (method) {
            case 0: return set(a, b);
            case 1: return band(a, b, c, d);
            case 2: return creep(a, b);
            case 3: return bandInfo(a, b);
            case 4: return layer(a, b, c);
            case 5: return out(a, 0, 500) ? INVALID : now.ofYear(a);
            case 6: return line();
            case 7: return front(a);
            case 8: return account(a);
            case 9: return count(a);
            case 10: return stake(a, b, c);
            case 11: return pull(a);
            case 12: return stakeInfo(a, b);
            case 13: return stakesIn(a);
            case 14: return years(a);
            case 15: return ifYears(a, b);
            case 16: return yearsTo(a);
            case 17: return steadyMelt();
            case 18: return undo();
            case 19: return type(a);
            case 20: return clearText();
            case 21: return fault(a);
            default: return live();
        }
    }

    private long set(int what, int value) {
        if (out(what, 0, 6) || out(value, LEAST[what], MOST[what])) {
            return INVALID;
        }
        change();
        long previous = now.settings[what];
        now.settings[what] = value;
        return previous;
    }

    private long band(int height, int length, int creep, int ice) {
        if (out(height, 0, 5000) || out(length, 100, 5000) || out(creep, 0, 500) || out(ice, 0, 1000000)) {
            return INVALID;
        }
        int size = now.bands.size();
        if (size > 0 && height >= now.bands.get(size - 1).height) {
            return NOT_POSSIBLE;
        }
        if (size == 10) {
            return LIMIT;
        }
        change();
        MBand b = new MBand();
        b.height = height;
        b.length = length;
        b.creep = creep;
        if (ice > 0) {
            b.layers.put(now.y, (long) ice);
        }
        now.bands.add(b);
        now.accounts[0] += ice;
        return size;
    }

    private long creep(int band, int value) {
        if (noBand(band) || out(value, 0, 500)) {
            return INVALID;
        }
        change();
        long previous = now.bands.get(band).creep;
        now.bands.get(band).creep = value;
        return previous;
    }

    private long bandInfo(int band, int what) {
        if (noBand(band) || out(what, 0, 11)) {
            return INVALID;
        }
        MBand b = now.bands.get(band);
        if ((what == 5 || what == 6) && b.layers.isEmpty()) {
            return NOT_FOUND;
        }
        long[] all = {b.height, b.length, b.creep, b.ice(), b.layers.size(),
            what == 5 ? b.layers.firstKey() : 0, what == 6 ? b.layers.lastKey() : 0,
            now.snow(b), now.melt(b), b.melted, b.gave, b.got};
        return all[what];
    }

    private long layer(int band, int index, int what) {
        if (noBand(band) || index < 0 || out(what, 0, 1)) {
            return INVALID;
        }
        TreeMap<Integer, Long> layers = now.bands.get(band).layers;
        if (index >= layers.size()) {
            return NOT_FOUND;
        }
        int year = new ArrayList<>(layers.keySet()).get(index);
        return what == 0 ? year : layers.get(year);
    }

    private long line() {
        long lowest = NOT_FOUND;
        for (int i = 0; i < now.bands.size(); i++) {
            lowest = now.snow(now.bands.get(i)) >= now.melt(now.bands.get(i)) ? i : lowest;
        }
        return lowest;
    }

    private long front(int what) {
        if (out(what, 0, 3)) {
            return INVALID;
        }
        long[] all = {now.front, now.rest, now.pieces, now.calvedIn < 0 ? NOT_FOUND : now.calvedIn};
        return all[what];
    }

    private long account(int what) {
        if (out(what, 0, 5)) {
            return INVALID;
        }
        // The document says that these two are the same, and what they are.
        return what < 4 ? now.accounts[what]
                : now.accounts[0] + now.accounts[1] - now.accounts[2] - now.accounts[3];
    }

    private long count(int what) {
        if (out(what, 0, 14)) {
            return INVALID;
        }
        if (what >= 6 && what <= 12) {
            return now.settings[what - 6];
        }
        long layers = 0;
        for (MBand b : now.bands) {
            layers += b.layers.size();
        }
        long[] all = {now.bands.size(), now.y, now.stakes.size(), now.standing(), layers,
            now.yearsOfLayers().size(), 0, 0, 0, 0, 0, 0, 0, history.size(), text.length()};
        return all[what];
    }

    private long stake(int band, int place, int depth) {
        if (noBand(band) || out(place, 0, now.bands.get(band).length - 1) || out(depth, 1, 10000)) {
            return INVALID;
        }
        for (MStake s : now.stakes) {
            if (s.state == 0 && s.band == band && s.place == place) {
                return NOT_POSSIBLE;
            }
        }
        if (now.stakes.size() == 6) {
            return LIMIT;
        }
        change();
        MStake s = new MStake();
        s.band = band;
        s.place = place;
        s.depth = depth;
        now.stakes.add(s);
        return now.stakes.size() - 1;
    }

    private long pull(int stake) {
        if (noStake(stake)) {
            return INVALID;
        }
        change();
        return now.stakes.remove(stake).change;
    }

    private long stakeInfo(int stake, int what) {
        if (noStake(stake) || out(what, 0, 5)) {
            return INVALID;
        }
        MStake s = now.stakes.get(stake);
        long[] all = {s.band, s.place, s.depth, s.change, s.state, s.years};
        return all[what];
    }

    private long stakesIn(int band) {
        if (noBand(band)) {
            return INVALID;
        }
        long mask = 0;
        for (int i = 0; i < now.stakes.size(); i++) {
            MStake s = now.stakes.get(i);
            mask += s.state == 0 && s.band == band ? Math.round(Math.pow(2, i)) : 0;
        }
        return mask;
    }

    private long years(int years) {
        if (out(years, 1, 100)) {
            return INVALID;
        }
        if (now.bands.isEmpty()) {
            return NOT_POSSIBLE;
        }
        if (now.y + years > 500) {
            return LIMIT;
        }
        change();
        long before = now.pieces;
        for (int i = 0; i < years; i++) {
            now.year();
        }
        return now.pieces - before;
    }

    private long ifYears(int years, int what) {
        if (out(years, 1, 100) || out(what, 0, 4)) {
            return INVALID;
        }
        if (now.bands.isEmpty()) {
            return NOT_POSSIBLE;
        }
        State then = now.copy();
        for (int i = 0; i < years; i++) {
            then.year();
        }
        TreeSet<Integer> layers = then.yearsOfLayers();
        long[] all = {then.bandIce() + then.front, then.pieces - now.pieces, then.accounts[2] - now.accounts[2],
            then.standing(), layers.isEmpty() ? NOT_FOUND : layers.first()};
        return all[what];
    }

    private long yearsTo(int what) {
        if (out(what, 0, 2)) {
            return INVALID;
        }
        if (now.bands.isEmpty()) {
            return NOT_POSSIBLE;
        }
        State then = now.copy();
        for (int i = 1; i <= 300; i++) {
            then.year();
            boolean[] so = {then.calvedIn == then.y, then.bandIce() == 0, then.standing() == 0};
            if (so[what]) {
                return i;
            }
        }
        return NOT_FOUND;
    }

    private long steadyMelt() {
        if (now.bands.isEmpty()) {
            return NOT_POSSIBLE;
        }
        State other = now.copy();
        for (int melt = 9000; melt >= 0; melt--) {
            other.settings[2] = melt;
            long left = 0;
            for (MBand b : other.bands) {
                left += other.snow(b) - other.melt(b);
            }
            if (left >= 0) {
                return melt;
            }
        }
        return NOT_FOUND;
    }

    private long undo() {
        if (history.isEmpty()) {
            return NOT_POSSIBLE;
        }
        now = history.removeLast();
        return history.size();
    }

    private long type(int character) {
        if (out(character, 32, 126)) {
            return INVALID;
        }
        if (text.length() == 60) {
            return LIMIT;
        }
        text += (char) character;
        return text.length();
    }

    private long clearText() {
        int length = text.length();
        text = "";
        return length;
    }

    /** The position and the reason of the fault, or null. */
    private int[] faultOf() {
        Matcher m = YEAR.matcher(text);
        int at = 0;
        for (int years = 1; at < text.length(); years++) {
            if (!m.find(at) || m.start() != at) {
                return new int[] {at, 1};
            }
            if (Integer.parseInt(m.group(1)) > 5000 || Integer.parseInt(m.group(2)) > 9000) {
                return new int[] {at, 2};
            }
            if (now.y + years > 500) {
                return new int[] {at, 3};
            }
            at = m.end();
        }
        return null;
    }

    private long fault(int what) {
        if (out(what, 0, 1)) {
            return INVALID;
        }
        int[] found = faultOf();
        return found == null ? NOT_FOUND : found[what];
    }

    private long live() {
        if (faultOf() != null || now.bands.isEmpty()) {
            return NOT_POSSIBLE;
        }
        change();
        int years = 0;
        Matcher m = YEAR.matcher(text);
        while (m.find()) {
            now.settings[0] = Integer.parseInt(m.group(1));
            now.settings[2] = Integer.parseInt(m.group(2));
            now.year();
            years++;
        }
        return years;
    }
}
