/** What the terms say of expressions: their form, their numbers, and when they hold. */
public final class TermsExpressionTest {
    private static final int[] LOW = {0, 0, 1, 1, 0};
    private static final int[] HIGH = {59, 23, 31, 12, 7};

    public static void main(String[] args) {
        Checks.run(TermsExpressionTest.class);
    }

    /** An expression that asks for this field alone, but for what makes the others the first of theirs. */
    private static String alone(int which, String field) {
        String[] first = {"0", "0", "1", "1", "*"};
        StringBuilder all = new StringBuilder();
        for (int i = 0; i < 5; i++) {
            boolean day = which == 4 && (i == 2 || i == 3);
            all.append(i > 0 ? " " : "").append(i == which ? field : day ? "*" : first[i]);
        }
        return all.toString();
    }

    /** The numbers of a field, found by the minutes at which its expression holds; of 0 and 7 the one that is 0. */
    private static String numbers(int which, String field) {
        Desk x = Desk.withJob(alone(which, field));
        StringBuilder all = new StringBuilder();
        for (int number = LOW[which]; number <= (which == 4 ? 6 : HIGH[which]); number++) {
            if (x.holds(0, minuteOf(which, number))) {
                all.append(all.length() > 0 ? " " : "").append(number);
            }
        }
        return all.toString();
    }

    /** A minute that has this number in a field, and in the others what alone() asks for. */
    private static int minuteOf(int which, int number) {
        // 2 January 2000 is the first Sunday.
        int[] minutes = {number, number * 60, (number - 1) * 1440,
            Calendar.minute(2000, which == 3 ? number : 1, 1, 0, 0), (number + 1) * 1440};
        return minutes[which];
    }

    private static String range(int from, int to) {
        StringBuilder all = new StringBuilder();
        for (int number = from; number <= to; number++) {
            all.append(number > from ? " " : "").append(number);
        }
        return all.toString();
    }

    private static void numbers(int which, String field, String want) {
        Checks.due("the numbers of " + field + " in field " + which, numbers(which, field), want);
    }

    private static void holds(String text, boolean want, int year, int month, int day, int hour, int minute) {
        Desk x = Desk.withJob(text);
        int at = Calendar.minute(year, month, day, hour, minute);
        Checks.due(text + " holds at " + Calendar.of(at), x.holds(0, at), want);
    }

    static void termsTheLeastAndTheMostNumberOfEachField() {
        for (int which = 0; which < 5; which++) {
            numbers(which, "" + LOW[which], "" + LOW[which]);
            String most = which == 4 ? "0" : "" + HIGH[which];
            numbers(which, "" + HIGH[which], most);
            numbers(which, HIGH[which] + "-" + HIGH[which], most);
            numbers(which, LOW[which] + "-" + LOW[which], "" + LOW[which]);
        }
    }

    static void termsAStarIsAllInTheBounds() {
        for (int which = 0; which < 5; which++) {
            numbers(which, "*", range(LOW[which], which == 4 ? 6 : HIGH[which]));
            numbers(which, LOW[which] + "-" + HIGH[which], range(LOW[which], which == 4 ? 6 : HIGH[which]));
        }
    }

    static void termsANumberIsThatOne() {
        for (int which = 0; which < 5; which++) {
            for (int number = LOW[which]; number <= HIGH[which]; number++) {
                numbers(which, "" + number, "" + (which == 4 ? number % 7 : number));
            }
        }
    }

    static void termsOneOrTwoDigits() {
        numbers(0, "5", "5");
        numbers(0, "05", "5");
        numbers(0, "00", "0");
        numbers(1, "09", "9");
        numbers(2, "01-03", "1 2 3");
        numbers(3, "1-03/02", "1 3");
        numbers(4, "07", "0");
    }

    static void termsARangeIsAllOfIt() {
        numbers(0, "3-7", "3 4 5 6 7");
        numbers(0, "9-10", "9 10");
        numbers(0, "58-59", "58 59");
        numbers(1, "22-23", "22 23");
        numbers(2, "30-31", "30 31");
        numbers(3, "11-12", "11 12");
        numbers(4, "5-6", "5 6");
        numbers(4, "5-7", "0 5 6");
    }

    static void termsARangeOfEqualNumbers() {
        numbers(0, "5-5", "5");
        numbers(0, "5-05", "5");
        numbers(0, "5-5/9", "5");
        numbers(4, "7-7", "0");
    }

    static void termsAStepCountsFromTheLeast() {
        numbers(0, "*/20", "0 20 40");
        numbers(0, "3-20/7", "3 10 17");
        numbers(1, "*/9", "0 9 18");
        numbers(2, "*/9", "1 10 19 28");
        numbers(2, "4-31/9", "4 13 22 31");
        numbers(3, "*/5", "1 6 11");
        numbers(4, "*/2", "0 2 4 6");
        numbers(4, "1-6/2", "1 3 5");
    }

    static void termsAStepThatMeetsTheEndOfARange() {
        numbers(0, "3-17/7", "3 10 17");
        numbers(0, "3-16/7", "3 10");
        numbers(0, "3-18/7", "3 10 17");
        numbers(0, "1-59/58", "1 59");
        numbers(0, "*/59", "0 59");
        numbers(3, "*/11", "1 12");
        numbers(2, "*/30", "1 31");
    }

    static void termsAStepGreaterThanTheRange() {
        numbers(0, "*/60", "0");
        numbers(0, "*/99", "0");
        numbers(0, "5-9/99", "5");
        numbers(0, "5-9/5", "5");
        numbers(0, "5-9/4", "5 9");
        numbers(2, "*/31", "1");
        numbers(3, "*/12", "1");
        numbers(4, "*/8", "0");
    }

    static void termsAStepOf1() {
        numbers(0, "3-5/1", "3 4 5");
        numbers(0, "3-5/01", "3 4 5");
        numbers(3, "*/1", range(1, 12));
    }

    static void termsSeveralItems() {
        numbers(0, "9,3-5,5-6,30,*/29", "0 3 4 5 6 9 29 30 58");
        numbers(3, "12,1", "1 12");
        numbers(4, "7,0", "0");
        numbers(2, "5,5,5", "5");
    }

    static void termsSundayIs0And7() {
        // 6 June 2010 is a Sunday.
        for (String field : new String[] {"0", "7", "07", "00", "6-7", "0-1", "*/7", "1-7/2", "1-7/3", "7-7/5", "3,7"}) {
            holds("* * * * " + field, true, 2010, 6, 6, 0, 0);
        }
        for (String field : new String[] {"1-6", "1-7/4", "6", "1", "2-7/2", "5-7/4"}) {
            holds("* * * * " + field, false, 2010, 6, 6, 0, 0);
        }
        numbers(4, "6-7", "0 6");
        numbers(4, "*/7", "0");
    }

    static void termsMinuteHourAndMonthAreAllNeeded() {
        holds("59 23 31 12 *", true, 2003, 12, 31, 23, 59);
        holds("59 23 31 12 *", false, 2003, 12, 31, 23, 58);
        holds("59 23 31 12 *", false, 2003, 12, 31, 22, 59);
        holds("59 23 31 12 *", false, 2003, 12, 30, 23, 59);
        holds("59 23 31 12 *", false, 2003, 10, 31, 23, 59);
    }

    static void termsTheMonthIsNeededHoweverTheDayFits() {
        holds("* * 7 5 1", false, 2010, 6, 7, 5, 31);
        holds("* * 7 6 1", true, 2010, 6, 7, 5, 31);
        holds("* * * 5 *", false, 2010, 6, 7, 5, 31);
    }

    // 7 June 2010 is a Monday.

    static void termsOneOfBothDaysIsEnoughWhenNeitherIsFree() {
        holds("* * 7 * 1", true, 2010, 6, 7, 0, 0);
        holds("* * 7 * 2", true, 2010, 6, 7, 0, 0);
        holds("* * 8 * 1", true, 2010, 6, 7, 0, 0);
        holds("* * 8 * 2", false, 2010, 6, 7, 0, 0);
    }

    static void termsBothDaysAreNeededWhenDaysIsFree() {
        holds("* * * * 1", true, 2010, 6, 7, 0, 0);
        holds("* * * * 2", false, 2010, 6, 7, 0, 0);
        holds("* * */2 * 1", true, 2010, 6, 7, 0, 0);
        holds("* * */2 * 2", false, 2010, 6, 7, 0, 0);
        holds("* * */5 * 1", false, 2010, 6, 7, 0, 0);
        holds("* * */5 * 2", false, 2010, 6, 7, 0, 0);
    }

    static void termsBothDaysAreNeededWhenWeekdaysIsFree() {
        holds("* * 7 * *", true, 2010, 6, 7, 0, 0);
        holds("* * 8 * *", false, 2010, 6, 7, 0, 0);
        holds("* * 7 * */2", false, 2010, 6, 7, 0, 0);
        holds("* * 8 * */2", true, 2010, 6, 8, 0, 0);
        holds("* * 7 * */2", false, 2010, 6, 8, 0, 0);
    }

    static void termsBothDaysAreNeededWhenBothAreFree() {
        holds("* * */2 * */2", false, 2010, 6, 7, 0, 0);
        holds("* * */2 * */2", false, 2010, 6, 8, 0, 0);
        holds("* * */2 * */2", true, 2010, 6, 1, 0, 0);
    }

    static void termsOnlyTheFirstCharacterMakesFree() {
        holds("* * 8,* * 2", true, 2010, 6, 7, 0, 0);
        holds("* * 8 * 2,*", true, 2010, 6, 7, 0, 0);
        holds("* * 8,*/5 * 1", true, 2010, 6, 7, 0, 0);
        holds("* * 7 * 2,*/5", true, 2010, 6, 7, 0, 0);
        holds("* * *,8 * 2", false, 2010, 6, 7, 0, 0);
        holds("* * 9 * *,1", false, 2010, 6, 7, 0, 0);
        holds("* * */5,7 * 1", true, 2010, 6, 7, 0, 0);
        holds("* * 7 * */2,1", true, 2010, 6, 7, 0, 0);
    }

    static void termsAllNumbersDoNotMakeFree() {
        holds("* * 1-31 * 2", true, 2010, 6, 7, 0, 0);
        holds("* * 8 * 0-6", true, 2010, 6, 7, 0, 0);
        holds("* * 8 * 0-7", true, 2010, 6, 7, 0, 0);
    }

    static void termsTheOtherFieldsMakeNothingFree() {
        holds("* * 7 * 2", true, 2010, 6, 7, 0, 0);
        holds("*/5 */5 7 */5 2", true, 2010, 6, 7, 0, 0);
        holds("0 0 7 6 2", true, 2010, 6, 7, 0, 0);
        holds("*/5 */5 7 */6 2", false, 2010, 6, 7, 0, 0);
    }

    static void termsFreeIsOfThisTextAlone() {
        Desk x = Desk.withJob("* * * * *");
        x.job("* * 8 * 1", 0);
        x.job("* * * * 1", 0);
        int at = Calendar.minute(2010, 6, 7, 0, 0);
        int other = Calendar.minute(2010, 6, 8, 0, 0);
        Checks.due("a job behind a free one", x.holds(1, at) && x.holds(1, other), true);
        Checks.due("a free one behind it", x.holds(2, at) && !x.holds(2, other), true);
        Checks.due("the first still", x.holds(0, at) && x.holds(0, other), true);
    }

    static void termsNumbersAreOfThisTextAlone() {
        for (int which = 0; which < 5; which++) {
            Desk x = new Desk();
            x.type(alone(which, "1,3"));
            x.type("x");
            Checks.due("job() of no expression", Checks.answer(() -> x.job(0)), Checks.ARGUMENT);
            x.erase();
            x.job(alone(which, "2,4"), 0);
            x.job(alone(which, "5"), 0);
            for (int job = 0; job < 2; job++) {
                StringBuilder got = new StringBuilder();
                for (int number = 1; number < 7; number++) {
                    got.append(x.holds(job, minuteOf(which, number)) ? number + " " : "");
                }
                Checks.due("the numbers of field " + which, got.toString(), job == 0 ? "2 4 " : "5 ");
            }
        }
    }

    static void termsTheLeapDay() {
        holds("* * 29 2 *", true, 2000, 2, 29, 0, 0);
        holds("* * 29 2 *", true, 2004, 2, 29, 23, 59);
        holds("* * 29 2 *", false, 2004, 3, 1, 0, 0);
        holds("* * 1 3 *", true, 2001, 3, 1, 0, 0);
    }
}
