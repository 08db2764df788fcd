import java.util.List;

/** The edges of texts, changes, the history and the order of errors, as "Terms" and promises 20 to 24 name them. */
public final class ChangesEdgesTest {
    private static final int INVALID = Calls.INVALID;
    private static final int NOT_POSSIBLE = Calls.NOT_POSSIBLE;
    private static final int LIMIT = Calls.LIMIT;
    private static final int NOT_FOUND = Calls.NOT_FOUND;
    private static final int WRONG_FORM = 1;
    private static final int OUT_OF_RANGE = 2;
    private static final int TOO_LATE = 3;
    private static final String BAND = "band 3000 1000 100 5000";

    private static final Answers answers = new Answers("ChangesEdgesTest");

    public static void main(String[] args) {
        textIsInitiallyEmpty();
        mostCharacters();
        eachYearIsFollowedByASemicolon();
        oneToFourDigits();
        zerosAhead();
        digitsAndSignsBesideThem();
        numbersOutOfRange();
        greaterThan500();
        theFirstOneThatApplies();
        textsToTheBrim();
        toLiveIsToSetAndLetGoBy();
        emptyTextIsLived();
        whatIsAChange();
        whatIsNoChange();
        fiveStates();
        undoneToTheEnd();
        allButTheText();
        undoBehindFullHistory();
        newWhereAnotherWasUndone();
        layersWhereOthersWereUndone();
        answers.end();
    }

    private static Run run(String... calls) {
        return new Run(answers, calls);
    }

    private static void noFault(String... calls) {
        run(calls).due("fault 0", NOT_FOUND).due("fault 1", NOT_FOUND);
    }

    private static void fault(int position, int reason, String... calls) {
        run(calls).due("fault 0", position).due("fault 1", reason);
    }

    // "There is a text of at most 60 characters, initially empty"
    private static void textIsInitiallyEmpty() {
        run().due("count 14", 0).due("clearText", 0).due("fault 0", NOT_FOUND).due("fault 1", NOT_FOUND);
        run("write 1,1;").due("count 14", 4).due("clearText", 4).due("count 14", 0).due("clearText", 0);
        run("write x").due("fault 0", 0).due("clearText", 1).due("fault 0", NOT_FOUND).due("type 126", 1);
    }

    private static void mostCharacters() {
        Run run = run(BAND);
        for (int i = 0; i < 15; i++) {
            run.play("write 0,0;");
        }
        run.due("count 14", 60).due("fault 0", NOT_FOUND).due("type 120", LIMIT).due("type 59", LIMIT);
        run.due("count 14", 60).due("fault 0", NOT_FOUND).due("live", 15).due("count 1", 15);
        run.due("clearText", 60).due("type 120", 1).due("count 14", 1).due("fault 1", WRONG_FORM);
    }

    // "a sequence of years, each followed by ';'"
    private static void eachYearIsFollowedByASemicolon() {
        noFault("write 1,1;");
        fault(0, WRONG_FORM, "write 1,1");
        noFault("write 1,1;1,1;");
        fault(4, WRONG_FORM, "write 1,1;1,1");
        fault(4, WRONG_FORM, "write 1,1;;");
        fault(0, WRONG_FORM, "write ;");
        fault(0, WRONG_FORM, "write ;1,1;");
        fault(0, WRONG_FORM, "write 1,11,1;");
        fault(0, WRONG_FORM, "write 1;1;");
        fault(0, WRONG_FORM, "write 1,1,1;");
    }

    // "the snow, ',', and the melt (numbers of 1 to 4 digits"
    private static void oneToFourDigits() {
        for (String snow : new String[] {"", "1", "12", "123", "1234", "12345"}) {
            for (String melt : new String[] {"", "9", "98", "987", "8765", "98765"}) {
                String text = snow + "," + melt + ";";
                boolean right = snow.length() >= 1 && snow.length() <= 4 && melt.length() >= 1 && melt.length() <= 4;
                if (right) {
                    noFault("write " + text);
                    noFault("write 7,7;" + text);
                } else {
                    fault(0, WRONG_FORM, "write " + text);
                    fault(4, WRONG_FORM, "write 7,7;" + text + "7,7;");
                }
            }
        }
    }

    // "zeros may stand ahead"
    private static void zerosAhead() {
        for (String number : new String[] {"7", "07", "007", "0007"}) {
            run(BAND, "write " + number + "," + number + ";").due("live", 1).due("count 6", 7).due("count 8", 7);
        }
        for (String number : new String[] {"0", "00", "000", "0000"}) {
            run(BAND, "write " + number + "," + number + ";").due("live", 1).due("count 6", 0).due("count 8", 0);
        }
        // A zero ahead is a digit, too.
        fault(0, WRONG_FORM, "write 00007,7;");
        fault(0, WRONG_FORM, "write 7,00007;");
        fault(0, WRONG_FORM, "write 05000,1;");
    }

    /** The signs just beside the digits, the comma and the semicolon, and the ends of what can be typed. */
    private static void digitsAndSignsBesideThem() {
        for (int sign = 32; sign <= 126; sign++) {
            boolean digit = sign >= '0' && sign <= '9';
            run("type " + sign, "write ,1;").due("fault 0", digit ? NOT_FOUND : 0);
            run("write 1", "type " + sign, "write ,1;").due("fault 0", digit ? NOT_FOUND : 0);
            run("write 1,", "type " + sign, "write ;").due("fault 0", digit ? NOT_FOUND : 0);
            run("write 1,1", "type " + sign, "write ;").due("fault 0", digit ? NOT_FOUND : sign == ';' ? 4 : 0);
            run("write 1", "type " + sign, "write 1;").due("fault 0", sign == ',' ? NOT_FOUND : 0);
            run("write 1,1", "type " + sign).due("fault 0", sign == ';' ? NOT_FOUND : 0);
            run("write 1,1;", "type " + sign).due("fault 0", 4).due("fault 1", WRONG_FORM);
        }
    }

    // "its reason is .. 2 if a number is out of its range"
    private static void numbersOutOfRange() {
        noFault("write 0,0;");
        noFault("write 5000,9000;");
        noFault("write 4999,8999;");
        fault(0, OUT_OF_RANGE, "write 5001,0;");
        fault(0, OUT_OF_RANGE, "write 0,9001;");
        fault(0, OUT_OF_RANGE, "write 9999,9999;");
        fault(0, OUT_OF_RANGE, "write 9000,5000;");
        fault(10, OUT_OF_RANGE, "write 5000,9000;5001,9000;5000,9000;");
        fault(10, OUT_OF_RANGE, "write 5000,9000;5000,9001;x");
    }

    // "3 if Y would become greater than 500"
    private static void greaterThan500() {
        noFault(BAND, "until 499", "write 1,1;");
        fault(4, TOO_LATE, BAND, "until 499", "write 1,1;2,2;");
        fault(0, TOO_LATE, BAND, "until 500", "write 1,1;");
        noFault(BAND, "until 500");
        noFault(BAND, "until 485", "write 1,1;1,1;1,1;1,1;1,1;1,1;1,1;1,1;1,1;1,1;1,1;1,1;1,1;1,1;1,1;");
        fault(56, TOO_LATE, BAND, "until 486", "write 1,1;1,1;1,1;1,1;1,1;1,1;1,1;1,1;1,1;1,1;1,1;1,1;1,1;1,1;1,1;");
        // When the years are undone, there is room for the text again.
        run(BAND, "until 499", "years 1", "write 1,1;").due("fault 1", TOO_LATE).due("live", NOT_POSSIBLE)
                .due("undo", 3).due("fault 1", NOT_FOUND).due("live", 1).due("count 1", 500).due("fault 0", 0);
    }

    // "The fault of the text is the position of the first character of the first year that is not possible",
    // "the first one of these that applies"
    private static void theFirstOneThatApplies() {
        fault(0, WRONG_FORM, BAND, "until 500", "write 5001,1");
        fault(0, WRONG_FORM, BAND, "until 500", "write x");
        fault(0, OUT_OF_RANGE, BAND, "until 500", "write 5001,1;");
        fault(0, OUT_OF_RANGE, BAND, "until 500", "write 5001,1;x");
        fault(0, TOO_LATE, BAND, "until 500", "write 5000,1;5001,1;x");
        fault(0, WRONG_FORM, "write 99999,1;5001,1;");
        fault(0, WRONG_FORM, "write 9999;1;5001,1;");
        fault(4, OUT_OF_RANGE, "write 1,1;5001,1;x");
        fault(4, WRONG_FORM, "write 1,1;x;5001,1;");
        fault(5, WRONG_FORM, "write 12,3;4,5 ;");
        fault(9, WRONG_FORM, "write 123,4567;1");
    }

    private static void textsToTheBrim() {
        noFault("write 0000,0000;0000,0000;0000,0000;0000,0000;0000,0000;5000,9000;");
        fault(50, OUT_OF_RANGE, "write 0000,0000;0000,0000;0000,0000;0000,0000;0000,0000;5000,9001;");
        fault(50, WRONG_FORM, "write 0000,0000;0000,0000;0000,0000;0000,0000;0000,0000;5000,90000");
        fault(59, WRONG_FORM, "write 000,0000;0000,0000;0000,0000;0000,0000;0000,0000;0000,0000;1");
        fault(0, WRONG_FORM, "write 111111111111111111111111111111111111111111111111111111111111");
        fault(0, WRONG_FORM, "write 1,1111111111111111111111111111111111111111111111111111111111");
        fault(0, WRONG_FORM, "write ;;;;;;;;;;;;;;;;;;;;;;;;;;;;;;;;;;;;;;;;;;;;;;;;;;;;;;;;;;;;");
        fault(56, WRONG_FORM, "write 1,1;1,1;1,1;1,1;1,1;1,1;1,1;1,1;1,1;1,1;1,1;1,1;1,1;1,1;1,1:");
    }

    // "To live the years means for each to set the settings 0 and 2 to these, and to let a year go by."
    private static void toLiveIsToSetAndLetGoBy() {
        Run run = Start.flat(answers, 9, 9, "band 3000 1000 0 0", "write 5,0;0,3;5000,9000;0007,0002;").run();
        run.due("live", 4).due("count 1", 4).due("count 6", 7).due("count 8", 2);
        run.due("account 1", 5012).due("account 2", 5007).due("bandInfo 0 3", 5).due("bandInfo 0 4", 1);
        // "the text, which stays"
        run.due("count 14", 28).due("live", 4).due("count 1", 8).due("undo", 3).due("count 1", 4);
        run.due("undo", 2).due("count 1", 0).due("count 6", 9).due("count 8", 9).due("count 14", 28);
    }

    // "Returns how many years there are in it; NOT_POSSIBLE if it has a fault, or there are no bands."
    private static void emptyTextIsLived() {
        run(BAND).due("live", 0).due("count 13", 2).due("count 1", 0).due("undo", 1).due("count 0", 1);
        run(BAND, "until 500").due("live", 0).due("count 1", 500);
        run().due("live", NOT_POSSIBLE).due("count 13", 0);
        run("write 1,1;").due("live", NOT_POSSIBLE).due("count 13", 0).due("count 6", 1000);
        run("write x").due("live", NOT_POSSIBLE);
        run(BAND, "write x").due("live", NOT_POSSIBLE).due("clearText", 1).due("live", 0);
    }

    // "The changes are the calls of set, band, creep, stake, pull, years and live that return no error."
    private static void whatIsAChange() {
        Run run = run();
        run.due("band 3000 100 0 0", 0).due("count 13", 1).due("undo", 0).due("count 13", 0).due("count 0", 0);
        run.due("band 3000 100 0 0", 0).due("count 13", 1);
        // Also if nothing is other behind it.
        run.due("set 0 1000", 1000).due("count 13", 2).due("creep 0 0", 0).due("count 13", 3).due("undo", 2);
        run.due("undo", 1).due("stake 0 5 5", 0).due("count 13", 2).due("pull 0", 0).due("count 13", 3).due("undo", 2);
        run.due("count 2", 1).due("undo", 1).due("count 2", 0).due("years 1", 0).due("count 13", 2).due("undo", 1);
        run.due("live", 0).due("count 13", 2).due("undo", 1).play("write 1,1;").due("live", 1).due("count 13", 2);
        run.due("undo", 1).due("undo", 0).due("undo", NOT_POSSIBLE);
        run("band 2500 100 0 0").due("years 100", 0).due("count 13", 2).due("undo", 1).due("count 1", 0);
    }

    private static void whatIsNoChange() {
        Start start = new Start(answers, BAND, "stake 0 5 5", "write 1,1;");
        String[] calls = {
            "bandInfo 0 3", "layer 0 0 1", "ofYear 0", "line", "front 0", "account 4", "count 4", "stakeInfo 0 1",
            "stakesIn 0", "ifYears 9 0", "yearsTo 1", "steadyMelt", "type 49", "clearText", "fault 0",
        };
        for (String call : calls) {
            Run run = start.run();
            run.ask(call);
            run.due("count 13", 2).due("undo", 1).due("count 2", 0);
        }
        for (String call : calls) {
            if (!call.startsWith("type") && !call.equals("clearText")) {
                start.leaves(call);
            }
        }
    }

    // "A history of at most 4 states is kept: .. if there are 5 states then, the oldest one is dropped."
    private static void fiveStates() {
        for (int changes = 0; changes <= 9; changes++) {
            Run run = run();
            for (int i = 1; i <= changes; i++) {
                run.due("set 0 " + i, i == 1 ? 1000 : i - 1).due("count 13", Math.min(i, 4));
            }
            int kept = Math.min(changes, 4);
            for (int left = kept - 1; left >= 0; left--) {
                int snow = changes - (kept - left);
                run.due("undo", left).due("count 13", left).due("count 6", snow == 0 ? 1000 : snow);
            }
            run.due("undo", NOT_POSSIBLE).due("count 13", 0).due("count 6", changes <= 4 ? 1000 : changes - 4);
        }
    }

    // "NOT_POSSIBLE if it is empty"
    private static void undoneToTheEnd() {
        run().due("undo", NOT_POSSIBLE).due("count 13", 0);
        run("set 0 1").due("undo", 0).due("undo", NOT_POSSIBLE).due("set 0 2", 1000).due("undo", 0)
                .due("undo", NOT_POSSIBLE).due("count 6", 1000);
        // A refused undo is no state.
        run("set 0 1").due("undo", 0).due("undo", NOT_POSSIBLE).due("undo", NOT_POSSIBLE).due("count 13", 0);
    }

    // "each change records everything before it but the text"
    private static void allButTheText() {
        Start start = new Start(answers, "set 5 60", BAND, "band 2000 500 200 900", "stake 0 950 400", "stake 1 0 9",
                "years 3");
        List<String> before = allButStates(start.run());
        String[] changes = {
            "set 2 9", "band 1000 100 9 9", "creep 1 7", "stake 0 0 3", "pull 0", "years 20", "live",
        };
        for (String change : changes) {
            Run run = start.with(change).run();
            answers.holds(change + " changes something", change.equals("live") || !allButStates(run).equals(before));
            run = start.with(change).run().due("undo", 3);
            answers.holds("all is as before " + change, allButStates(run).equals(before));
        }
        // The text is as it was left, before and behind.
        run("write 1,1;", BAND, "write 2").due("undo", 0).due("count 14", 5).due("fault 0", 4).due("clearText", 5)
                .play(BAND).due("undo", 0).due("count 14", 0);
        run(BAND, "write 1,1;", "live", "write 2,2;").due("undo", 1).due("count 14", 8).due("live", 2);
        run(BAND, "write 1,1;", "live", "clearText").due("undo", 1).due("count 14", 0).due("count 1", 0);
    }

    /** All answers but the number of states in the history. */
    private static List<String> allButStates(Run run) {
        List<String> lines = run.everything();
        lines.removeIf(line -> line.startsWith("count 13 "));
        return lines;
    }

    /** States that were dropped or undone do not come back, and are written over. */
    private static void undoBehindFullHistory() {
        Run run = run("set 0 1", "set 0 2", "set 0 3", "set 0 4", "set 0 5");
        run.due("undo", 3).due("set 0 6", 4).due("count 13", 4).due("set 0 7", 6).due("count 13", 4);
        run.due("undo", 3).due("count 6", 6).due("undo", 2).due("count 6", 4).due("undo", 1).due("count 6", 3);
        run.due("undo", 0).due("count 6", 2).due("undo", NOT_POSSIBLE);
        Run bands = run("band 5000 100 0 1", "band 4000 100 0 2", "band 3000 100 0 3", "band 2000 100 0 4");
        bands.due("undo", 3).due("undo", 2).due("undo", 1).due("undo", 0).due("count 0", 0).due("account 0", 0);
        bands.due("band 9 200 7 0", 0).dues("bandInfo 0", 9, 200, 7, 0, 0, NOT_FOUND, NOT_FOUND);
        bands.due("ofYear 0", 0).due("bandInfo 1 0", INVALID).due("undo", 0).due("count 0", 0);
    }

    /** A band and a stake begin anew, whatever was there in states that were undone. */
    private static void newWhereAnotherWasUndone() {
        Run run = Start.flat(answers, 9, 5, "band 3000 100 500 400", "band 2000 100 500 400", "stake 0 0 1",
                "stake 1 99 1", "years 3", "years 3", "years 3", "years 3").run();
        run.due("undo", 3).due("undo", 2).due("undo", 1).due("undo", 0);
        run.due("count 0", 2).due("count 1", 0).due("count 2", 2).dues("stakeInfo 1", 1, 99, 1, 0, 0, 0);
        for (int i = 0; i < 6; i++) {
            run.play("pull 1", "set 6 " + i, "years 2", "undo", "band 1000 200 7 0", "stake 2 9 8");
            run.dues("bandInfo 2", 1000, 200, 7, 0, 0, NOT_FOUND, NOT_FOUND, 9, 5, 0, 0, 0);
            run.dues("stakeInfo 1", 2, 9, 8, 0, 0, 0).due("ofYear 0", 800).due("ofYear 1", 0);
            run.play("undo", "undo", "undo", "undo").due("count 0", 2).due("count 2", 2).due("count 13", 0);
        }
    }

    /** Layers of a band that was undone are not in the one that comes in its place. */
    private static void layersWhereOthersWereUndone() {
        Run bands = run();
        for (int ice : new int[] {50, 60, 7, 8, 9, 1}) {
            bands.play("band 3000 100 0 " + ice).due("layer 0 0 1", ice).due("ofYear 0", ice);
            bands.due("account 4", ice).due("account 5", ice).due("undo", 0);
        }
        Run years = Start.flat(answers, 9, 5, "band 3000 100 0 0").run();
        for (int i = 1; i <= 6; i++) {
            // Without these the state with years would be written over ahead of the next band.
            years.play("set 6 1", "set 6 2", "undo");
            years.play("band 2000 100 0 " + i).due("bandInfo 1 4", 1).due("bandInfo 1 5", 0).due("bandInfo 1 6", 0);
            years.due("ofYear 0", i).due("ofYear 1", 0).due("ofYear 3", 0).due("account 5", i);
            years.play("years 3").due("bandInfo 1 4", 4).due("bandInfo 1 6", 3).due("layer 1 3 1", 4);
            years.due("account 5", i + 24).play("undo", "undo").due("count 0", 1).due("account 5", 0);
        }
    }
}
