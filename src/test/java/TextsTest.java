/** Promises 21 to 24: the text. */
public final class TextsTest {
    private static final int INVALID = -2000000001;
    private static final int NOT_POSSIBLE = -2000000002;
    private static final int LIMIT = -2000000003;
    private static final int NOT_FOUND = -2000000004;
    private static final int WRONG_FORM = 1;
    private static final int OUT_OF_RANGE = 2;
    private static final int TOO_LATE = 3;

    private static final Answers answers = new Answers("TextsTest");

    public static void main(String[] args) {
        promise21Type();
        promise22ClearText();
        promise23NoFault();
        promise23WrongForm();
        promise23OutOfRange();
        promise23TooLate();
        promise23FirstOne();
        promise23Errors();
        promise24Live();
        promise24SameAsSetAndYears();
        promise24Errors();
        promise24EmptyText();
        answers.end();
    }

    private static void due(String call, long got, long want) {
        answers.due(call, got, want);
    }

    private static void write(IceTongue x, String text) {
        x.clearText();
        for (int i = 0; i < text.length(); i++) {
            due("21: type " + text.charAt(i), x.type(text.charAt(i)), i + 1);
        }
    }

    private static void fault(IceTongue x, String text, int position, int reason) {
        write(x, text);
        due("23: fault(0) of " + text, x.fault(0), position);
        due("23: fault(1) of " + text, x.fault(1), reason);
    }

    private static IceTongue atYear(int year) {
        IceTongue x = new IceTongue();
        x.band(3000, 1000, 100, 5000);
        for (int y = 0; y < year; y += Math.min(100, year - y)) {
            x.years(Math.min(100, year - y));
        }
        due("Y", x.count(1), year);
        return x;
    }

    private static void promise21Type() {
        IceTongue x = new IceTongue();
        due("21: type(31)", x.type(31), INVALID);
        due("21: type(127)", x.type(127), INVALID);
        due("21: type(-1)", x.type(-1), INVALID);
        due("21: type(MIN)", x.type(Integer.MIN_VALUE), INVALID);
        due("21: type(65536 + 49)", x.type(65536 + 49), INVALID);
        due("21: length", x.count(14), 0);
        due("21: type(32)", x.type(32), 1);
        due("21: type(126)", x.type(126), 2);
        for (int i = 3; i <= 60; i++) {
            due("21: type(48)", x.type(48), i);
        }
        due("21: a 61st one", x.type(48), LIMIT);
        due("21: invalid ahead of the limit", x.type(31), INVALID);
        due("21: length", x.count(14), 60);
        due("21: no change", x.count(13), 0);
    }

    private static void promise22ClearText() {
        IceTongue x = new IceTongue();
        due("22: clearText()", x.clearText(), 0);
        write(x, "1,1;x");
        due("22: clearText()", x.clearText(), 5);
        due("22: length", x.count(14), 0);
        due("22: no fault", x.fault(0), NOT_FOUND);
        due("22: clearText()", x.clearText(), 0);
        due("22: type(49)", x.type(49), 1);
        // What stood there before is not read again.
        due("22: fault(0)", x.fault(0), 0);
        due("22: no change", x.count(13), 0);
    }

    private static void promise23NoFault() {
        IceTongue x = new IceTongue();
        String[] texts = {
            "", "0,0;", "5000,9000;", "0001,0010;", "0,0;0,0;", "12,345;678,1;",
            "1,1;2,2;3,3;4,4;5,5;6,6;7,7;8,8;9,9;0,0;1,1;2,2;3,3;4,4;5,5;",
            "0000,0000;5000,9000;0000,0000;5000,9000;0000,0000;5000,9000;",
        };
        for (String text : texts) {
            fault(x, text, NOT_FOUND, NOT_FOUND);
        }
    }

    private static void promise23WrongForm() {
        IceTongue x = new IceTongue();
        String[] texts = {
            ";", ",", "1", "1,", "1,1", "1;", ",1;", "1,;", "1,1,", "1,,1;", "1;1,", "1,1,1;", " 1,1;", "1 ,1;",
            "1, 1;", "1,1 ;", "-1,1;", "+1,1;", "1,-1;", "00001,1;", "1,00001;", "12345,1;", "1,12345;", "a,1;",
            "1,a;", "1a,1;", "1,1a;", "1.1;", "1,1:", "/,1;", ":,1;", "1,/;", "~", ";1,1;", "1,12345",
            "999999999999999999999999999999999999999999999999999999999999",
        };
        for (String text : texts) {
            fault(x, text, 0, WRONG_FORM);
            // A year that is possible may stand ahead.
            if (text.length() <= 49) {
                fault(x, "0001,23;" + text, 8, WRONG_FORM);
            }
        }
        fault(x, "1,1; ", 4, WRONG_FORM);
        fault(x, "1,1;2,2;;", 8, WRONG_FORM);
        fault(x, "0000,0000;0000,0000;0000,0000;0000,0000;0000,0000;0000,0000,", 50, WRONG_FORM);
    }

    private static void promise23OutOfRange() {
        IceTongue x = new IceTongue();
        fault(x, "5001,0;", 0, OUT_OF_RANGE);
        fault(x, "0,9001;", 0, OUT_OF_RANGE);
        fault(x, "9999,9999;", 0, OUT_OF_RANGE);
        fault(x, "5000,9000;9000,5000;", 10, OUT_OF_RANGE);
        // The form is looked at ahead of the range.
        fault(x, "9999,9999", 0, WRONG_FORM);
        fault(x, "9999,99999;", 0, WRONG_FORM);
    }

    private static void promise23TooLate() {
        IceTongue x = atYear(500);
        fault(x, "", NOT_FOUND, NOT_FOUND);
        fault(x, "1,1;", 0, TOO_LATE);
        fault(x, "5001,1;", 0, OUT_OF_RANGE);
        fault(x, "1,1", 0, WRONG_FORM);
        IceTongue y = atYear(498);
        fault(y, "1,1;2,2;", NOT_FOUND, NOT_FOUND);
        fault(y, "1,1;2,2;3,3;", 8, TOO_LATE);
        fault(y, "1,1;2,2;3,9999;", 8, OUT_OF_RANGE);
        fault(y, "1,1;2,2;3,3;x", 8, TOO_LATE);
        fault(y, "1,1;2,2;x", 8, WRONG_FORM);
        fault(y, "1,1;5001,2;3,3;", 4, OUT_OF_RANGE);
        y.undo();
        fault(y, "1,1;2,2;3,3;", NOT_FOUND, NOT_FOUND);
    }

    private static void promise23FirstOne() {
        IceTongue x = new IceTongue();
        fault(x, "1,1;9999,1;x", 4, OUT_OF_RANGE);
        fault(x, "1,1;x;9999,1;", 4, WRONG_FORM);
        fault(x, "12,1;3,45;6,7;8,9", 14, WRONG_FORM);
    }

    private static void promise23Errors() {
        IceTongue x = new IceTongue();
        due("23: fault(-1)", x.fault(-1), INVALID);
        due("23: fault(2)", x.fault(2), INVALID);
        write(x, "x");
        due("23: fault(2) of x", x.fault(2), INVALID);
        due("23: fault(MAX)", x.fault(Integer.MAX_VALUE), INVALID);
        due("23: fault(MIN)", x.fault(Integer.MIN_VALUE), INVALID);
    }

    private static void promise24Live() {
        IceTongue x = new IceTongue();
        x.set(1, 0);
        x.set(3, 0);
        x.set(5, 1);
        x.band(3000, 1000, 0, 1000);
        write(x, "10,3;0020,0001;");
        int states = x.count(13);
        due("24: live()", x.live(), 2);
        due("24: one change", x.count(13), states == 4 ? 4 : states + 1);
        due("24: Y", x.count(1), 2);
        due("24: snow setting", x.count(6), 20);
        due("24: melt setting", x.count(8), 1);
        due("24: snow", x.account(1), 30);
        due("24: melted", x.account(2), 4);
        due("24: of year 1", x.ofYear(1), 7);
        due("24: of year 2", x.ofYear(2), 19);
        due("24: the text stays", x.count(14), 15);
        due("24: live() again", x.live(), 2);
        due("24: Y", x.count(1), 4);
        due("24: undo()", x.undo(), 3);
        due("24: undo()", x.undo(), 2);
        due("24: Y", x.count(1), 0);
        due("24: ice", x.account(4), 1000);
        due("24: snow setting", x.count(6), 1000);
        due("24: melt setting", x.count(8), 1500);
    }

    private static void promise24SameAsSetAndYears() {
        int[][] years = {{900, 1800}, {0, 0}, {5000, 100}, {12, 9000}, {1, 2}};
        IceTongue x = new IceTongue();
        IceTongue y = new IceTongue();
        for (IceTongue each : new IceTongue[] {x, y}) {
            each.set(5, 60);
            each.band(3300, 900, 200, 1500);
            each.band(2200, 300, 450, 800);
            each.stake(0, 700, 4000);
            each.stake(1, 0, 1000);
        }
        StringBuilder text = new StringBuilder();
        for (int[] year : years) {
            text.append(year[0]).append(',').append(year[1]).append(';');
            y.set(0, year[0]);
            y.set(2, year[1]);
            y.years(1);
        }
        write(x, text.toString());
        due("24: live()", x.live(), 5);
        for (int what = 0; what <= 5; what++) {
            due("24: account(" + what + ")", x.account(what), y.account(what));
        }
        for (int what = 0; what <= 12; what++) {
            due("24: count(" + what + ")", x.count(what), y.count(what));
        }
        for (int what = 0; what <= 3; what++) {
            due("24: front(" + what + ")", x.front(what), y.front(what));
        }
        for (int what = 0; what <= 5; what++) {
            due("24: stakeInfo(0, " + what + ")", x.stakeInfo(0, what), y.stakeInfo(0, what));
        }
    }

    private static void promise24Errors() {
        IceTongue x = new IceTongue();
        due("24: without bands", x.live(), NOT_POSSIBLE);
        write(x, "1,1;");
        due("24: without bands", x.live(), NOT_POSSIBLE);
        due("24: no change", x.count(13), 0);
        x.band(3000, 1000, 0, 1000);
        write(x, "7,7;x");
        due("24: with a fault", x.live(), NOT_POSSIBLE);
        write(x, "7,7;7,9001;");
        due("24: with a fault", x.live(), NOT_POSSIBLE);
        due("24: one change", x.count(13), 1);
        due("24: Y", x.count(1), 0);
        due("24: snow setting", x.count(6), 1000);
        IceTongue y = atYear(499);
        write(y, "7,7;8,8;");
        due("24: beyond the last year", y.live(), NOT_POSSIBLE);
        due("24: Y", y.count(1), 499);
        due("24: snow setting", y.count(6), 1000);
        write(y, "7,7;");
        due("24: to the last year", y.live(), 1);
        due("24: Y", y.count(1), 500);
        due("24: not twice", y.live(), NOT_POSSIBLE);
    }

    private static void promise24EmptyText() {
        IceTongue x = new IceTongue();
        x.band(3000, 1000, 0, 1000);
        // A text without years has no fault; to live it is a change, for it returns no error.
        due("24: live()", x.live(), 0);
        due("24: a change", x.count(13), 2);
        due("24: Y", x.count(1), 0);
        due("24: at the last year too", atYear(500).live(), 0);
    }
}
