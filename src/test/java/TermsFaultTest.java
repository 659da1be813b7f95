/** What the terms say of the fault of a text that is no expression. */
public final class TermsFaultTest {
    private static final int[] LOW = {0, 0, 1, 1, 0};
    private static final int[] HIGH = {59, 23, 31, 12, 7};

    public static void main(String[] args) {
        Checks.run(TermsFaultTest.class);
    }

    /** Makes a job of a text and tells the fault, -1 when it is an expression. */
    private static void fault(String text, int want) {
        Desk x = new Desk();
        x.type(text);
        Desk read = x.twin();
        Checks.due("job() of \"" + text + "\"", Checks.answer(() -> read.job(1)), want == -1 ? "0" : Checks.ARGUMENT);
        Checks.due("fault() of \"" + text + "\"", read.fault(), want);
        Checks.due("room behind \"" + text + "\"", read.room(), want == -1 ? 60 : 60 - text.length());
        if (want != -1) {
            // The text stays: it is read again with the same fault.
            read.argument("job() again of \"" + text + "\"", d -> d.job(1));
            Checks.due("no job of \"" + text + "\"", read.count(0, 3), Checks.NONE);
        }
    }

    /** An expression with this field. */
    private static String with(int which, String field) {
        StringBuilder all = new StringBuilder();
        for (int i = 0; i < 5; i++) {
            all.append(i > 0 ? " " : "").append(i == which ? field : "*");
        }
        return all.toString();
    }

    /** The fault of an expression's field, told from the field's beginning. */
    private static void inField(int which, String field, int want) {
        fault(with(which, field), want == -1 ? -1 : 2 * which + want);
    }

    static void termsNoFaultOfExpressions() {
        fault("* * * * *", -1);
        fault("0 0 1 1 0", -1);
        fault("59 23 31 12 7", -1);
        fault("00 00 01 01 00", -1);
        fault("09 08 07 06 05", -1);
        fault("*/1 */99 */01 */12 */7", -1);
        fault("0-59 0-23 1-31 1-12 0-7", -1);
        fault("5-5 5-05 05-5 5-5/9 7-7", -1);
        fault("0-59/99 0-23/1 1-31/31 1-12/2 0-7/3", -1);
        fault("*,5 5,* *,* */2,*/3 1,2-3,4-7/2", -1);
        fault("5,5,5 3,2,1 31,1 12,1 7,0", -1);
    }

    static void termsFaultOfNoText() {
        fault("", 0);
    }

    static void termsFaultAtTheBeginningOfAnItem() {
        for (char sign : " ,-/a!~+.:".toCharArray()) {
            fault(sign + " * * * *", 0);
            fault("5," + sign + " * * * *", 2);
            fault("* * * * " + sign, 8);
            fault("* * * * *," + sign, 10);
        }
        fault(" * * * * *", 0);
        fault("*  * * * *", 2);
        fault("* * * *  *", 8);
        fault("5,,6 * * * *", 2);
        fault("5, 6 * * * *", 2);
        fault("* * * x *", 6);
        // The signs beside the digits.
        fault("/ * * * *", 0);
        fault(": * * * *", 0);
    }

    static void termsFaultBehindAMinus() {
        for (char sign : " *,-/a:".toCharArray()) {
            fault("5-" + sign + " * * * *", 2);
            fault("* * * * 1-" + sign, 10);
        }
    }

    static void termsFaultBehindASlash() {
        for (char sign : " *,-/a:".toCharArray()) {
            fault("*/" + sign + " * * * *", 2);
            fault("1-5/" + sign + " * * * *", 4);
            fault("* * * * */" + sign, 10);
        }
    }

    static void termsFaultBehindAStar() {
        for (char sign : "*-059a".toCharArray()) {
            fault("*" + sign + " * * * *", 1);
            fault("* * * * *" + sign, 9);
        }
    }

    static void termsFaultBehindANumber() {
        for (char sign : "*/a.:".toCharArray()) {
            fault("5" + sign + " * * * *", 1);
            fault("15" + sign + "2 * * * *", 2);
            fault("5,7" + sign + "2 * * * *", 3);
            fault("* * * * 5" + sign, 9);
        }
    }

    static void termsFaultBehindARange() {
        for (char sign : "*-a.".toCharArray()) {
            fault("5-7" + sign + "9 * * * *", 3);
            fault("5-17" + sign + " * * * *", 4);
            fault("* * * * 5-7" + sign, 11);
        }
    }

    static void termsFaultBehindAStep() {
        for (char sign : "*-/a.".toCharArray()) {
            fault("*/5" + sign + "5 * * * *", 3);
            fault("*/15" + sign + " * * * *", 4);
            fault("1-9/2" + sign + "3 * * * *", 5);
            fault("* * * * 1-5/2" + sign, 13);
        }
    }

    static void termsFaultOfAThirdDigit() {
        fault("123 * * * *", 2);
        fault("012 * * * *", 2);
        fault("000 * * * *", 2);
        fault("1-234 * * * *", 4);
        fault("*/123 * * * *", 4);
        fault("1-9/012 * * * *", 6);
        fault("* * * * 011", 10);
    }

    static void termsFaultBehindTheFifthField() {
        fault("* * * * * ", 9);
        fault("* * * * * *", 9);
        fault("* * * * 7 ", 9);
        fault("* * * * 1-5 *", 11);
        fault("* * * * */2 ", 11);
        fault("* * * * *x", 9);
    }

    static void termsFaultWhenTheTextEndsTooEarly() {
        fault("*", 1);
        fault("* ", 2);
        fault("* *", 3);
        fault("* * * ", 6);
        fault("* * * *", 7);
        fault("* * * * ", 8);
        fault("1", 1);
        fault("12", 2);
        fault("1-", 2);
        fault("1-5", 3);
        fault("1-5/", 4);
        fault("1-5/2", 5);
        fault("*/", 2);
        fault("*/1", 3);
        fault("1,", 2);
        fault("* * * * 1,", 10);
        fault("* * * * 1-", 10);
        fault("* * * * */", 10);
    }

    static void termsFaultOfANumberBelowTheBounds() {
        for (int which = 2; which <= 3; which++) {
            inField(which, "0", 0);
            inField(which, "00", 0);
            inField(which, "0-5", 0);
            inField(which, "1,0", 2);
            inField(which, "*,00", 2);
        }
        for (int which = 0; which < 5; which++) {
            inField(which, "" + LOW[which], -1);
            inField(which, LOW[which] + "-5", -1);
        }
    }

    static void termsFaultOfANumberAboveTheBounds() {
        for (int which = 0; which < 5; which++) {
            int above = HIGH[which] + 1;
            inField(which, "" + HIGH[which], -1);
            inField(which, "" + above, 0);
            inField(which, above + "-" + above, 0);
            inField(which, "1," + above, 2);
            inField(which, "99", 0);
            if (above < 10) {
                inField(which, "0" + above, 0);
            }
        }
    }

    static void termsFaultOfARangesEndAboveTheBounds() {
        for (int which = 0; which < 5; which++) {
            int above = HIGH[which] + 1;
            inField(which, "1-" + HIGH[which], -1);
            inField(which, "1-" + above, 2);
            inField(which, "1-" + above + "/2", 2);
            inField(which, "1-99", 2);
            inField(which, "3,1-" + above, 4);
        }
    }

    static void termsFaultOfARangesEndThatIsLess() {
        for (int which = 0; which < 5; which++) {
            inField(which, "5-4", 2);
            inField(which, "5-04", 2);
            inField(which, "5-5", -1);
            inField(which, "5-6", -1);
            inField(which, "5-1", 2);
            inField(which, "5-0", 2);
            inField(which, "3,5-4/2", 4);
        }
        fault("30-29 * * * *", 3);
        fault("30-2 * * * *", 3);
        fault("* * * * 7-6", 10);
        fault("* * * * 6-0", 10);
    }

    static void termsFaultOfAStepOf0() {
        for (int which = 0; which < 5; which++) {
            inField(which, "*/0", 2);
            inField(which, "*/00", 2);
            inField(which, "*/01", -1);
            inField(which, "*/1", -1);
            inField(which, "*/99", -1);
            inField(which, "1-5/0", 4);
            inField(which, "1-5/00", 4);
            inField(which, "1-5/10", -1);
        }
    }

    static void termsFaultAsSoonAsTheDigitsWereRead() {
        fault("60", 0);
        fault("60x", 0);
        fault("600 * * * *", 0);
        fault("60/2 * * * *", 0);
        fault("60- * * * *", 0);
        fault("9-08x", 2);
        fault("9-088", 2);
        fault("9-8-7", 2);
        fault("*/0", 2);
        fault("*/000 * * * *", 2);
        fault("1-5/00x", 4);
        fault("* * 0", 4);
        fault("* * * * 8", 8);
        fault("* * * * 80", 8);
        fault("* * * * 10", 8);
    }

    static void termsFaultOfTwoDigitsNotOfTheFirst() {
        // 0 alone would be below the bounds, and 1 less than the one before it.
        inField(2, "01", -1);
        inField(3, "09", -1);
        inField(0, "5-10", -1);
        inField(0, "*/02", -1);
    }

    static void termsFaultOfWhatIsWrongFirst() {
        fault("x 60 * * *", 0);
        fault("60 x * * *", 0);
        fault("* * x 99 *", 4);
        fault("* 24 0 13 8", 2);
        fault("1,70-80/0 x", 2);
        fault("60-70 * * * *", 0);
        fault("30-20/0 * * * *", 3);
        fault("30-40/0 * * * *", 6);
        fault("5x,60 * * * *", 1);
        fault("5/0 * * * *", 1);
        fault("*-60 * * * *", 1);
        fault("123,60 * * * *", 2);
        fault("1,2,60,4 * * * *", 4);
        fault("* 0-24 x * *", 4);
    }

    static void termsFaultOfTextsOf60() {
        StringBuilder text = new StringBuilder("00 * * * ");
        for (int i = 0; i < 25; i++) {
            text.append("1,");
        }
        fault(text.toString(), 59);
        fault(text + "7", -1);
        fault(text + "8", 59);
        fault(text + "*", -1);
        fault(text + "x", 59);
        fault(text + ",", 59);
        StringBuilder behind = new StringBuilder("* * * * ");
        for (int i = 0; i < 26; i++) {
            behind.append("1,");
        }
        fault(behind.toString(), 60);
    }

    static void termsFaultOfAsManyItemsAsFit() {
        StringBuilder text = new StringBuilder("1");
        for (int i = 0; i < 25; i++) {
            text.append(",*");
        }
        fault(text + " * * * *", -1);
        fault(text + ", * * * *", 52);
        StringBuilder one = new StringBuilder("1");
        for (int i = 0; i < 29; i++) {
            one.append(",1");
        }
        fault(one.toString(), 59);
        fault(one + ",", 60);
        fault(one + "x", 59);
    }
}
