import java.util.ArrayList;
import java.util.List;

/**
 * Promises 2 to 24: each argument at the ends of its range and outside it, each error and their order, in a new
 * object, in an ordinary one and in a full one; behind each refused call everything is as if it had not been made.
 */
public final class RangesTest {
    private static final int INVALID = Calls.INVALID;
    private static final int NOT_POSSIBLE = Calls.NOT_POSSIBLE;
    private static final int LIMIT = Calls.LIMIT;
    private static final int NOT_FOUND = Calls.NOT_FOUND;
    private static final int[] LEAST = {0, 0, 0, 0, 0, 1, 0};
    private static final int[] MOST = {5000, 500, 9000, 500, 5000, 1000000, 50};

    private static final Answers answers = new Answers("RangesTest");

    private static final Start NEW = new Start(answers);
    /** A state of the history, no stake, no ice, and a text with a fault. */
    private static final Start YOUNG = new Start(answers, "band 2500 1000 100 0", "write 1,1;x");
    /**
     * Three bands with ice, three stakes: one melted out, one fallen, one that stands in band 1 at 50; the front
     * has calved and rests; the text has no fault.
     */
    private static final Start ORDINARY = new Start(answers, "set 5 40", "band 3500 1000 100 5000",
            "band 2800 800 200 3000", "band 1500 600 300 2600", "stake 2 0 1000", "stake 2 599 9999",
            "stake 0 950 500", "years 1", "write 100,2000;0,0;");
    private static final Start FULL = full();

    public static void main(String[] args) {
        startsAreAsTold();
        promise2Set();
        promise3Band();
        promise4Creep();
        promise5BandInfo();
        promise6Layer();
        promises7To11();
        promise12Stake();
        promises13To15();
        promise16Years();
        promises17To19();
        promises20To24();
        nothingThereYet();
        everythingFull();
        answers.end();
    }

    /** 10 bands, 6 stakes, 4 states, 60 characters and Y at 500. */
    private static Start full() {
        List<String> calls = new ArrayList<>(List.of("set 3 0", "set 1 0", "set 0 12", "set 2 9"));
        for (int i = 0; i < 10; i++) {
            calls.add("band " + (4000 - 100 * i) + " " + (100 + i) + " " + 40 * i + " " + 10000 * i);
        }
        calls.add("until 500");
        for (int i = 0; i < 6; i++) {
            calls.add("stake " + i + " " + (4 + i) + " 20");
        }
        calls.add("write 5000,9000;5000,9000;5000,9000;5000,9000;5000,9000;5000,9000;");
        return new Start(answers, calls.toArray(new String[0]));
    }

    private static void startsAreAsTold() {
        YOUNG.run().due("count 0", 1).due("count 13", 1).due("fault 0", 4).due("count 4", 0).due("front 3", NOT_FOUND);
        ORDINARY.run().due("count 0", 3).due("count 13", 4).due("fault 0", NOT_FOUND).due("count 1", 1)
                .due("stakeInfo 0 4", 1).due("stakeInfo 1 4", 2).dues("stakeInfo 2", 1, 50).due("front 3", 1)
                .due("front 1", 2).due("bandInfo 0 4", 2).due("bandInfo 2 4", 1);
        FULL.run().due("count 0", 10).due("count 1", 500).due("count 2", 6).due("count 3", 6).due("count 13", 4)
                .due("count 14", 60);
    }

    private static Start[] all() {
        return new Start[] {NEW, YOUNG, ORDINARY, FULL};
    }

    private static void promise2Set() {
        for (Start start : all()) {
            start.range("set ? 1", 0, 6);
            for (int what = 0; what <= 6; what++) {
                start.range("set " + what + " ?", LEAST[what], MOST[what]);
            }
            start.refuses("set -1 -1", INVALID).refuses("set 7 -1", INVALID).refuses("set MIN MAX", INVALID);
        }
    }

    private static void promise3Band() {
        NEW.range("band ? 100 0 0", 0, 5000);
        for (Start start : new Start[] {NEW, YOUNG, ORDINARY}) {
            start.range("band 9 ? 0 0", 100, 5000).range("band 9 100 ? 0", 0, 500).range("band 9 100 0 ?", 0, 1000000);
        }
        for (Start start : all()) {
            start.refuses("band -1 100 0 0", INVALID).refuses("band 5001 100 0 0", INVALID);
            start.refuses("band MIN 100 0 0", INVALID).refuses("band MAX 100 0 0", INVALID);
            // INVALID_ARGUMENT rather than NOT_POSSIBLE: all these heights are not less than the last one's, too.
            start.refuses("band 5000 99 0 0", INVALID).refuses("band 5000 5001 0 0", INVALID);
            start.refuses("band 5000 100 -1 0", INVALID).refuses("band 5000 100 501 0", INVALID);
            start.refuses("band 5000 100 0 -1", INVALID).refuses("band 5000 100 0 1000001", INVALID);
            start.refuses("band MIN MIN MIN MIN", INVALID).refuses("band MAX MAX MAX MAX", INVALID);
        }
        // "NOT_POSSIBLE if its height is not less than that of the last one"
        ORDINARY.due("band 1499 100 0 0", 3).refuses("band 1500 100 0 0", NOT_POSSIBLE);
        ORDINARY.refuses("band 1501 100 0 0", NOT_POSSIBLE).refuses("band 5000 5000 500 1000000", NOT_POSSIBLE);
        YOUNG.due("band 2499 100 0 0", 1).refuses("band 2500 100 0 0", NOT_POSSIBLE);
        // At the height 0 there is nothing below.
        new Start(answers, "band 0 100 0 0").refuses("band 0 100 0 0", NOT_POSSIBLE)
                .refuses("band -1 100 0 0", INVALID);
        new Start(answers, "band 1 100 0 0").due("band 0 100 0 0", 1);
        NEW.due("band 5000 5000 500 1000000", 0).due("band 0 100 0 0", 0);
        // "LIMIT_REACHED if there are 10"; NOT_POSSIBLE rather than LIMIT_REACHED
        FULL.refuses("band 3099 100 0 0", LIMIT).refuses("band 0 5000 500 1000000", LIMIT);
        FULL.refuses("band 3100 100 0 0", NOT_POSSIBLE).refuses("band 5000 100 0 0", NOT_POSSIBLE);
        FULL.refuses("band 3099 99 0 0", INVALID).refuses("band 3100 99 0 0", INVALID);
    }

    private static void promise4Creep() {
        YOUNG.range("creep ? 5", 0, 0).range("creep 0 ?", 0, 500);
        ORDINARY.range("creep ? 5", 0, 2).range("creep 2 ?", 0, 500);
        FULL.range("creep ? 5", 0, 9).range("creep 9 ?", 0, 500);
        NEW.refuses("creep 0 5", INVALID).refuses("creep -1 5", INVALID).refuses("creep 0 -1", INVALID);
        ORDINARY.refuses("creep 3 501", INVALID).refuses("creep MIN MAX", INVALID);
        ORDINARY.run().due("creep 1 500", 200).due("creep 1 0", 500).due("creep 1 0", 0).due("bandInfo 1 2", 0)
                .due("bandInfo 0 2", 100).due("bandInfo 2 2", 300);
    }

    private static void promise5BandInfo() {
        YOUNG.range("bandInfo ? 0", 0, 0).range("bandInfo 0 ?", 0, 11);
        ORDINARY.range("bandInfo ? 5", 0, 2).range("bandInfo 2 ?", 0, 11);
        FULL.range("bandInfo ? 11", 0, 9).range("bandInfo 9 ?", 0, 11);
        NEW.refuses("bandInfo 0 0", INVALID).refuses("bandInfo 0 5", INVALID).refuses("bandInfo -1 12", INVALID);
        // "NOT_FOUND for 5 and 6 if it has no ice"; INVALID_ARGUMENT rather than NOT_FOUND
        YOUNG.refuses("bandInfo 0 5", NOT_FOUND).refuses("bandInfo 0 6", NOT_FOUND);
        YOUNG.refuses("bandInfo 1 5", INVALID).refuses("bandInfo 1 6", INVALID);
        new Start(answers, "band 0 100 0 1", "years 1").refuses("bandInfo 0 5", NOT_FOUND)
                .refuses("bandInfo 0 6", NOT_FOUND);
        // "0 for 9 to 11 if there was no year with it"
        YOUNG.run().dues("bandInfo 0", 2500, 1000, 100, 0, 0, NOT_FOUND, NOT_FOUND, 1000, 1500, 0, 0, 0);
        ORDINARY.run().play("band 900 100 500 7").dues("bandInfo 3", 900, 100, 500, 7, 1, 1, 1, 200, 3100, 0, 0, 0);
        // 5000 + 1500 - 500 gives 600; 2600 + 500 - 2500 gives 180 and gets 590 of 3000 + 1150 - 1200.
        ORDINARY.run().dues("bandInfo 0", 3500, 1000, 100, 5400, 2, 0, 1, 1500, 500, 500, 600, 0);
        ORDINARY.run().dues("bandInfo 2", 1500, 600, 300, 1010, 1, 0, 0, 500, 2500, 2500, 180, 590);
    }

    private static void promise6Layer() {
        NEW.refuses("layer 0 0 0", INVALID).refuses("layer -1 -1 -1", INVALID);
        // "NOT_FOUND if there are not so many"
        YOUNG.refuses("layer 0 0 0", NOT_FOUND).refuses("layer 0 0 1", NOT_FOUND).refuses("layer 0 MAX 1", NOT_FOUND);
        YOUNG.refuses("layer 0 -1 0", INVALID).refuses("layer 1 0 0", INVALID).refuses("layer 0 0 2", INVALID);
        ORDINARY.range("layer ? 0 0", 0, 2).range("layer 0 0 ?", 0, 1).range("layer 2 0 ?", 0, 1);
        ORDINARY.due("layer 0 0 0", 0).due("layer 0 0 1", 4400).due("layer 0 1 0", 1).due("layer 0 1 1", 1000);
        ORDINARY.refuses("layer 0 2 0", NOT_FOUND).refuses("layer 0 2 1", NOT_FOUND);
        ORDINARY.refuses("layer 2 1 0", NOT_FOUND).refuses("layer 0 MAX 0", NOT_FOUND);
        ORDINARY.refuses("layer 0 -1 0", INVALID).refuses("layer 0 MIN 1", INVALID);
        // INVALID_ARGUMENT rather than NOT_FOUND
        ORDINARY.refuses("layer 0 2 2", INVALID).refuses("layer 3 2 0", INVALID).refuses("layer 0 MAX -1", INVALID);
        FULL.range("layer ? 0 1", 0, 9).range("layer 9 0 ?", 0, 1).refuses("layer 0 501 0", NOT_FOUND);
        FULL.due("layer 0 499 0", 500).due("layer 0 499 1", 3).refuses("layer 0 500 0", NOT_FOUND);
    }

    private static void promises7To11() {
        for (Start start : all()) {
            start.range("ofYear ?", 0, 500).range("account ?", 0, 5).range("count ?", 0, 14);
        }
        NEW.due("ofYear 0", 0).due("ofYear 500", 0);
        FULL.due("ofYear 500", 10 * 3);
        // "NOT_FOUND if there is none"
        NEW.refuses("line", NOT_FOUND);
        YOUNG.refuses("line", NOT_FOUND);
        ORDINARY.due("line", 0).with("set 2 1450").due("line", 1);
        ORDINARY.with("set 2 1451").due("line", 0);
        ORDINARY.with("set 2 2500").due("line", 0).with("set 2 2501").refuses("line", NOT_FOUND);
        FULL.due("line", 9).with("set 0 9").due("line", 9).with("set 0 8").refuses("line", NOT_FOUND);
        // "NOT_FOUND for 3 if it never calved"
        for (Start start : new Start[] {NEW, YOUNG}) {
            start.refuses("front 3", NOT_FOUND).refuses("front -1", INVALID).refuses("front 4", INVALID);
            start.refuses("front MIN", INVALID).refuses("front MAX", INVALID).run().dues("front", 0, 0, 0);
        }
        ORDINARY.range("front ?", 0, 3);
        FULL.range("front ?", 0, 3);
    }

    private static void promise12Stake() {
        YOUNG.range("stake ? 1 5", 0, 0).range("stake 0 ? 5", 0, 999).range("stake 0 1 ?", 1, 10000);
        ORDINARY.range("stake ? 1 5", 0, 2).range("stake 1 ? 5", 0, 799).range("stake 2 1 ?", 1, 10000);
        new Start(answers, "band 9 100 0 0").range("stake 0 ? 5", 0, 99);
        new Start(answers, "band 9 5000 0 0").range("stake 0 ? 5", 0, 4999);
        NEW.refuses("stake 0 0 1", INVALID).refuses("stake -1 -1 0", INVALID);
        // "NOT_POSSIBLE if a stake stands at this place"; the others melted out at 0 and fell from 599.
        ORDINARY.refuses("stake 1 50 1", NOT_POSSIBLE).refuses("stake 1 50 10000", NOT_POSSIBLE);
        ORDINARY.due("stake 1 49 1", 3).due("stake 1 51 1", 3).due("stake 0 50 1", 3).due("stake 2 50 1", 3);
        ORDINARY.due("stake 2 0 1", 3).due("stake 2 599 1", 3).due("stake 0 950 1", 3);
        ORDINARY.with("stake 2 0 1").refuses("stake 2 0 1", NOT_POSSIBLE);
        ORDINARY.refuses("stake 1 50 0", INVALID).refuses("stake 1 50 10001", INVALID);
        // "LIMIT_REACHED if there are 6"; NOT_POSSIBLE rather than LIMIT_REACHED
        FULL.refuses("stake 0 5 1", LIMIT).refuses("stake 9 108 10000", LIMIT).refuses("stake 0 4 1", NOT_POSSIBLE);
        FULL.refuses("stake 0 4 0", INVALID).refuses("stake 0 100 1", INVALID).refuses("stake 10 4 1", INVALID);
        FULL.refuses("stake 9 109 1", INVALID).refuses("stake 0 MIN 1", INVALID).refuses("stake 0 5 MAX", INVALID);
        FULL.with("pull 5").due("stake 9 108 10000", 5).with("stake 9 108 10000").refuses("stake 9 107 1", LIMIT);
        // Those that stand no more are stakes, too.
        ORDINARY.with("stake 0 0 1", "stake 0 1 1").due("stake 0 2 1", 5).with("stake 0 2 1")
                .refuses("stake 0 3 1", LIMIT).refuses("stake 0 2 1", NOT_POSSIBLE);
    }

    private static void promises13To15() {
        ORDINARY.range("pull ?", 0, 2).range("stakeInfo ? 0", 0, 2).range("stakeInfo 2 ?", 0, 5);
        FULL.range("pull ?", 0, 5).range("stakeInfo ? 5", 0, 5).range("stakeInfo 5 ?", 0, 5);
        ORDINARY.refuses("stakeInfo 3 6", INVALID).refuses("stakeInfo MIN MAX", INVALID);
        for (Start start : new Start[] {NEW, YOUNG}) {
            start.refuses("pull 0", INVALID).refuses("pull -1", INVALID).refuses("stakeInfo 0 0", INVALID);
        }
        // "the numbers of the later ones decrease by 1"
        ORDINARY.run().due("pull 0", -2000).due("count 2", 2).due("stakeInfo 0 4", 2).due("stakeInfo 1 1", 50)
                .due("stakesIn 1", 2).due("stakeInfo 2 0", INVALID).due("pull 2", INVALID);
        ORDINARY.run().due("pull 2", 1000).due("stakeInfo 0 4", 1).due("stakeInfo 1 4", 2).due("stakesIn 1", 0);
        Run run = FULL.run();
        for (int left = 5; left >= 0; left--) {
            run.due("pull " + left, 0).due("count 2", left);
        }
        run.due("pull 0", INVALID).due("undo", 3).due("undo", 2).due("undo", 1).due("undo", 0).due("count 2", 4);
        Run first = FULL.run();
        for (int left = 5; left >= 0; left--) {
            first.due("pull 0", 0).due("stakeInfo 0 0", left == 0 ? INVALID : 6 - left);
        }
        YOUNG.range("stakesIn ?", 0, 0).due("stakesIn 0", 0);
        ORDINARY.range("stakesIn ?", 0, 2).due("stakesIn 0", 0).due("stakesIn 1", 4).due("stakesIn 2", 0);
        FULL.range("stakesIn ?", 0, 9).due("stakesIn 0", 1).due("stakesIn 5", 32).due("stakesIn 6", 0);
        NEW.refuses("stakesIn 0", INVALID).refuses("stakesIn -1", INVALID);
    }

    private static void promise16Years() {
        YOUNG.range("years ?", 1, 100);
        ORDINARY.range("years ?", 1, 100);
        // "NOT_POSSIBLE if there are no bands"; INVALID_ARGUMENT rather than it
        NEW.refuses("years 1", NOT_POSSIBLE).refuses("years 100", NOT_POSSIBLE).refuses("years 0", INVALID);
        NEW.refuses("years 101", INVALID).refuses("years MIN", INVALID).refuses("years MAX", INVALID);
        NEW.with("set 0 1").refuses("years 1", NOT_POSSIBLE);
        NEW.with("band 9 100 0 0", "undo").refuses("years 1", NOT_POSSIBLE);
        // "LIMIT_REACHED if Y would become greater than 500"
        FULL.refuses("years 1", LIMIT).refuses("years 100", LIMIT).refuses("years 0", INVALID);
        FULL.refuses("years 101", INVALID).refuses("years MIN", INVALID).refuses("years MAX", INVALID);
        Start late = YOUNG.with("until 401");
        late.due("years 99", 0).refuses("years 100", LIMIT).refuses("years 101", INVALID);
        late.with("years 99").due("count 1", 500);
        YOUNG.with("until 400", "years 100").due("count 1", 500).refuses("years 1", LIMIT);
        YOUNG.with("until 499").due("years 1", 0).refuses("years 2", LIMIT);
    }

    private static void promises17To19() {
        for (Start start : new Start[] {ORDINARY, FULL}) {
            start.range("ifYears ? 0", 1, 100).range("ifYears ? 4", 1, 100).range("ifYears 1 ?", 0, 4);
            start.refuses("ifYears 0 5", INVALID).refuses("ifYears MIN MAX", INVALID);
            start.leaves("ifYears 100 4").leaves("yearsTo 0").leaves("yearsTo 1").leaves("yearsTo 2");
            start.leaves("steadyMelt");
        }
        // "NOT_POSSIBLE if there are no bands", rather than NOT_FOUND
        for (int what = 0; what <= 4; what++) {
            NEW.refuses("ifYears 1 " + what, NOT_POSSIBLE).refuses("ifYears 100 " + what, NOT_POSSIBLE);
            NEW.refuses("ifYears 0 " + what, INVALID).refuses("ifYears 101 " + what, INVALID);
        }
        NEW.refuses("ifYears 1 5", INVALID).refuses("ifYears 1 -1", INVALID);
        YOUNG.refuses("ifYears 1 4", NOT_FOUND).refuses("ifYears 100 4", NOT_FOUND).refuses("ifYears 0 4", INVALID);
        YOUNG.refuses("ifYears 1 5", INVALID).run().dues("ifYears 1", 0, 0, 1000, 0);
        ORDINARY.with("set 2 500").range("yearsTo ?", 0, 2).refuses("yearsTo 1", NOT_FOUND);
        ORDINARY.refuses("yearsTo 0", NOT_FOUND).refuses("yearsTo 1", NOT_FOUND);
        for (int what = 0; what <= 2; what++) {
            NEW.refuses("yearsTo " + what, NOT_POSSIBLE);
        }
        for (Start start : all()) {
            start.refuses("yearsTo -1", INVALID).refuses("yearsTo 3", INVALID);
            start.refuses("yearsTo MIN", INVALID).refuses("yearsTo MAX", INVALID);
        }
        YOUNG.refuses("yearsTo 0", NOT_FOUND).due("yearsTo 1", 1).due("yearsTo 2", 1);
        NEW.refuses("steadyMelt", NOT_POSSIBLE);
        YOUNG.due("steadyMelt", 1000).with("set 4 5000").refuses("steadyMelt", NOT_FOUND);
    }

    private static void promises20To24() {
        NEW.refuses("undo", NOT_POSSIBLE);
        YOUNG.due("undo", 0).with("undo").refuses("undo", NOT_POSSIBLE);
        for (Start start : new Start[] {NEW, YOUNG, ORDINARY}) {
            start.range("type ?", 32, 126);
        }
        for (String sign : new String[] {"31", "127", "0", "-1", "MIN", "MAX", "65584", "304", "-208"}) {
            NEW.refuses("type " + sign, INVALID);
            // INVALID_ARGUMENT rather than LIMIT_REACHED
            FULL.refuses("type " + sign, INVALID);
        }
        FULL.refuses("type 32", LIMIT).refuses("type 126", LIMIT).refuses("type 59", LIMIT).due("clearText", 60);
        YOUNG.range("fault ?", 0, 1).due("fault 0", 4).due("fault 1", 1);
        FULL.range("fault ?", 0, 1).due("fault 0", 0).due("fault 1", 3);
        // "NOT_FOUND if the text has no fault (also if it is empty)"; INVALID_ARGUMENT rather than NOT_FOUND
        for (Start start : new Start[] {NEW, ORDINARY}) {
            start.refuses("fault 0", NOT_FOUND).refuses("fault 1", NOT_FOUND);
            start.refuses("fault -1", INVALID).refuses("fault 2", INVALID);
            start.refuses("fault MIN", INVALID).refuses("fault MAX", INVALID);
        }
        NEW.refuses("live", NOT_POSSIBLE).with("write 1,1;").refuses("live", NOT_POSSIBLE);
        YOUNG.refuses("live", NOT_POSSIBLE).with("clearText").due("live", 0);
        FULL.refuses("live", NOT_POSSIBLE).with("clearText").due("live", 0);
        ORDINARY.due("live", 2).with("type 49").refuses("live", NOT_POSSIBLE);
        // No year of the text is lived if the last one is not possible.
        YOUNG.with("clearText", "write 5,5;0005,9001;").refuses("live", NOT_POSSIBLE);
        YOUNG.with("clearText", "until 499", "write 5,5;6,6;").refuses("live", NOT_POSSIBLE);
    }

    /** "nothing there yet" in one place: no bands, no stakes, no ice, an empty text, an empty history. */
    private static void nothingThereYet() {
        String[] invalid = {"creep 0 0", "bandInfo 0 0", "layer 0 0 0", "stake 0 0 1", "pull 0", "stakeInfo 0 0",
            "stakesIn 0"};
        String[] notPossible = {"years 1", "ifYears 1 0", "yearsTo 0", "steadyMelt", "undo", "live"};
        String[] notFound = {"line", "front 3", "fault 0", "fault 1"};
        for (String call : invalid) {
            NEW.refuses(call, INVALID);
        }
        for (String call : notPossible) {
            NEW.refuses(call, NOT_POSSIBLE);
        }
        for (String call : notFound) {
            NEW.refuses(call, NOT_FOUND);
        }
        NEW.run().dues("count", 0, 0, 0, 0, 0, 0, 1000, 50, 1500, 100, 2500, 500, 2, 0, 0).due("count 15", INVALID)
                .dues("account", 0, 0, 0, 0, 0, 0).dues("front", 0, 0, 0).due("clearText", 0);
        // No ice: years go by, and the looks ahead find none.
        Run run = YOUNG.run();
        run.dues("account", 0, 0, 0, 0, 0, 0).due("ifYears 100 0", 0).due("ifYears 100 1", 0);
        run.due("ifYears 100 2", 100000).due("ifYears 100 3", 0).due("years 100", 0);
        run.dues("account", 0, 100000, 100000, 0, 0, 0).due("count 4", 0).due("count 5", 0).due("bandInfo 0 9", 1000);
    }

    private static void everythingFull() {
        FULL.refuses("band 0 100 0 0", LIMIT).refuses("stake 9 0 1", LIMIT).refuses("type 48", LIMIT);
        FULL.refuses("years 1", LIMIT).refuses("live", NOT_POSSIBLE);
        // The fifth state drops the oldest one: the changes go on.
        FULL.run().due("set 0 77", 12).due("count 13", 4).due("undo", 3).due("undo", 2).due("undo", 1).due("undo", 0)
                .due("count 2", 3).due("undo", NOT_POSSIBLE);
        // The looks ahead go on beyond the year 500.
        Run run = FULL.run();
        long ice = run.ask("account 4");
        run.due("ifYears 100 0", ice + 100 * 30 - 500 * run.ask("ifYears 100 1")).due("ifYears 100 2", 9000);
        run.due("count 1", 500).due("account 4", ice);
    }
}
