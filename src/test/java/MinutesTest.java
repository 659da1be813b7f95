import java.time.LocalDateTime;

/** Promises 8 (holds), 9 (next) and 10 (part). */
public final class MinutesTest {
    private static final int LIMIT = 20000000;
    private static final LocalDateTime FIRST = LocalDateTime.of(2000, 1, 1, 0, 0);

    public static void main(String[] args) {
        partsAreThoseOfTheCalendar();
        partRefuses();
        holdsByMinuteHourAndMonth();
        holdsByDayOrWeekday();
        holdsByDayAndWeekdayWhenOneIsFree();
        sundayIsZeroAndSeven();
        stepsCountFromTheLeast();
        holdsRefuses();
        nextIsAbove();
        nextEndsBelowTheLimit();
        nextIsTheFirstThatHolds();
        nextRefuses();
        Checks.close();
    }

    private static int minute(int year, int month, int day, int hour, int minute) {
        LocalDateTime then = LocalDateTime.of(year, month, day, hour, minute);
        return (int) java.time.Duration.between(FIRST, then).toMinutes();
    }

    private static void part(TimedRuns x, int minute) {
        LocalDateTime then = FIRST.plusMinutes(minute);
        Checks.due("year of " + minute, x.part(minute, 0), then.getYear());
        Checks.due("month of " + minute, x.part(minute, 1), then.getMonthValue());
        Checks.due("day of " + minute, x.part(minute, 2), then.getDayOfMonth());
        Checks.due("hour of " + minute, x.part(minute, 3), then.getHour());
        Checks.due("minute of " + minute, x.part(minute, 4), then.getMinute());
        Checks.due("weekday of " + minute, x.part(minute, 5), then.getDayOfWeek().getValue() % 7);
    }

    private static void partsAreThoseOfTheCalendar() {
        TimedRuns x = new TimedRuns();
        part(x, 0);
        part(x, LIMIT - 1);
        Checks.due("weekday of 0", x.part(0, 5), 6);
        Checks.due("weekday of 1440", x.part(1440, 5), 0);
        Checks.due("29 February 2000", x.part(59 * 1440, 2), 29);
        for (int leap = 0; leap < 800; leap++) {
            TimedRuns fresh = new TimedRuns();
            part(fresh, leap * 1440);
            part(fresh, leap * 1440 + 1440 * leap);
        }
        // Upward day after day, downward, and in leaps: each way of turning to a day is gone.
        for (int minute = 0; minute < LIMIT; minute += 1440) {
            part(x, minute);
            part(x, minute + Math.min(1439, LIMIT - 1 - minute));
        }
        for (int minute = LIMIT - 1; minute >= 0; minute -= 1439) {
            part(x, minute);
        }
        for (int i = 0, minute = 0; i < 20000; i++, minute = (minute + 7654321) % LIMIT) {
            part(x, minute);
        }
    }

    private static void partRefuses() {
        TimedRuns x = Checks.withJob("* * * * *");
        int[][] refused = {{-1, 0}, {LIMIT, 0}, {0, -1}, {0, 6}, {Integer.MIN_VALUE, 2}, {Integer.MAX_VALUE, 2},
            {5, Integer.MIN_VALUE}, {5, Integer.MAX_VALUE}};
        for (int[] r : refused) {
            Checks.thrown("part(" + r[0] + ", " + r[1] + ")", x, Checks.ARGUMENT, () -> x.part(r[0], r[1]));
        }
    }

    private static void holds(String text, boolean want, int year, int month, int day, int hour, int minute) {
        TimedRuns x = Checks.withJob(text);
        int at = minute(year, month, day, hour, minute);
        Checks.due(text + " holds at " + FIRST.plusMinutes(at), x.holds(0, at), want);
    }

    private static void holdsByMinuteHourAndMonth() {
        holds("* * * * *", true, 2000, 1, 1, 0, 0);
        holds("0 * * * *", true, 2000, 1, 1, 0, 0);
        holds("1 * * * *", false, 2000, 1, 1, 0, 0);
        holds("59 23 31 12 *", true, 2003, 12, 31, 23, 59);
        holds("59 23 31 12 *", false, 2003, 12, 31, 22, 59);
        holds("59 23 31 12 *", false, 2003, 12, 30, 23, 59);
        holds("59 23 31 12 *", false, 2003, 10, 31, 23, 59);
        holds("59 23 31 12 *", false, 2003, 12, 31, 23, 58);
        holds("* 5 * * *", true, 2010, 6, 7, 5, 31);
        holds("* * * 6 *", true, 2010, 6, 7, 5, 31);
        holds("* * * 5 *", false, 2010, 6, 7, 5, 31);
        holds("10,20,31 5-6 7,8 4,6 *", true, 2010, 6, 7, 5, 31);
        holds("10,20,30 5-6 7,8 4,6 *", false, 2010, 6, 7, 5, 31);
        // The month is needed however the day fits.
        holds("* * 7 5 1", false, 2010, 6, 7, 5, 31);
        holds("* * 29 2 *", true, 2004, 2, 29, 0, 0);
    }

    private static void holdsByDayOrWeekday() {
        // 7 June 2010 is a Monday.
        holds("* * 7 * 1", true, 2010, 6, 7, 0, 0);
        holds("* * 7 * 2", true, 2010, 6, 7, 0, 0);
        holds("* * 8 * 1", true, 2010, 6, 7, 0, 0);
        holds("* * 8 * 2", false, 2010, 6, 7, 0, 0);
        // Only the first character makes a field free.
        holds("* * 8,* * 2", true, 2010, 6, 7, 0, 0);
        holds("* * 8 * 2,*", true, 2010, 6, 7, 0, 0);
        holds("* * 1-31 * 2", true, 2010, 6, 7, 0, 0);
        holds("* * 8 * 0-6", true, 2010, 6, 7, 0, 0);
        holds("* * 8 * 0-7", true, 2010, 6, 7, 0, 0);
    }

    private static void holdsByDayAndWeekdayWhenOneIsFree() {
        holds("* * * * 1", true, 2010, 6, 7, 0, 0);
        holds("* * * * 2", false, 2010, 6, 7, 0, 0);
        holds("* * 7 * *", true, 2010, 6, 7, 0, 0);
        holds("* * 8 * *", false, 2010, 6, 7, 0, 0);
        holds("* * */2 * 1", true, 2010, 6, 7, 0, 0);
        holds("* * */2 * 2", false, 2010, 6, 7, 0, 0);
        holds("* * */5 * 1", false, 2010, 6, 7, 0, 0);
        holds("* * */5,7 * 1", true, 2010, 6, 7, 0, 0);
        holds("* * *,8 * 2", false, 2010, 6, 7, 0, 0);
        holds("* * 7 * */2", false, 2010, 6, 7, 0, 0);
        holds("* * 8 * */2", true, 2010, 6, 8, 0, 0);
        holds("* * 7 * */2", false, 2010, 6, 8, 0, 0);
        holds("* * 7 * */2,1", true, 2010, 6, 7, 0, 0);
        holds("* * 9 * *,1", false, 2010, 6, 7, 0, 0);
        // The other fields make nothing free.
        holds("* * 7 * 2", true, 2010, 6, 7, 0, 0);
        holds("*/5 */5 7 */6 2", false, 2010, 6, 7, 0, 0);
        holds("*/5 */5 7 */5 2", true, 2010, 6, 7, 0, 0);
    }

    private static void sundayIsZeroAndSeven() {
        // 6 June 2010 is a Sunday, 5 June a Saturday.
        holds("* * * * 0", true, 2010, 6, 6, 0, 0);
        holds("* * * * 7", true, 2010, 6, 6, 0, 0);
        holds("* * * * 7", false, 2010, 6, 5, 0, 0);
        holds("* * * * 6", true, 2010, 6, 5, 0, 0);
        holds("* * * * 6", false, 2010, 6, 6, 0, 0);
        holds("* * * * 5-7", true, 2010, 6, 6, 0, 0);
        holds("* * * * 5-7", false, 2010, 6, 7, 0, 0);
        holds("* * * * */7", true, 2010, 6, 6, 0, 0);
        holds("* * * * */7", false, 2010, 6, 7, 0, 0);
        holds("* * * * 1-7/2", true, 2010, 6, 6, 0, 0);
        holds("* * * * 1-7/4", false, 2010, 6, 6, 0, 0);
        holds("* * * * 1-6", false, 2010, 6, 6, 0, 0);
        holds("* * * * 07-7", true, 2010, 6, 6, 0, 0);
    }

    private static void numbers(String text, int first, int by, int... want) {
        TimedRuns x = Checks.withJob(text);
        StringBuilder got = new StringBuilder();
        StringBuilder due = new StringBuilder();
        for (int i = 0; i < 31; i++) {
            if (x.holds(0, first + i * by)) {
                got.append(i).append(' ');
            }
        }
        for (int number : want) {
            due.append(number).append(' ');
        }
        Checks.due("the numbers of " + text, got.toString(), due.toString());
    }

    private static void stepsCountFromTheLeast() {
        numbers("*/7 * * * *", 0, 1, 0, 7, 14, 21, 28);
        numbers("3-20/7 * * * *", 0, 1, 3, 10, 17);
        numbers("3-17/7 * * * *", 0, 1, 3, 10, 17);
        numbers("3-16/7 * * * *", 0, 1, 3, 10);
        numbers("3-16/99 * * * *", 0, 1, 3);
        numbers("*/99 * * * *", 0, 1, 0);
        numbers("3-5/1 * * * *", 0, 1, 3, 4, 5);
        numbers("9,3-5,5-6,30 * * * *", 0, 1, 3, 4, 5, 6, 9, 30);
        numbers("0 */9 * * *", 0, 60, 0, 9, 18, 24);
        // From day to day, the first of January 2000 being the 0th here: days and months begin at 1.
        numbers("0 0 */9 * *", 0, 1440, 0, 9, 18, 27);
        numbers("0 0 4-31/9 * *", 0, 1440, 3, 12, 21, 30);
        numbers("0 0 * */3 *", 0, 28 * 1440, 0, 1, 4, 7, 10, 14, 17, 20, 23, 27, 30);
    }

    private static void holdsRefuses() {
        TimedRuns x = Checks.withJob("* * * * *");
        Checks.due("holds at the first", x.holds(0, 0), true);
        Checks.due("holds at the last", x.holds(0, LIMIT - 1), true);
        int[] outside = {-1, LIMIT, Integer.MIN_VALUE, Integer.MAX_VALUE};
        int[] noJob = {-1, 1, 6, Integer.MIN_VALUE, Integer.MAX_VALUE};
        for (int minute : outside) {
            Checks.thrown("holds(0, " + minute + ")", x, Checks.ARGUMENT, () -> x.holds(0, minute) ? 1 : 0);
        }
        for (int job : noJob) {
            Checks.thrown("holds(" + job + ", 0)", x, Checks.INDEX, () -> x.holds(job, 0) ? 1 : 0);
            Checks.thrown("holds(" + job + ", -1)", x, Checks.INDEX, () -> x.holds(job, -1) ? 1 : 0);
        }
    }

    private static void nextIsAbove() {
        TimedRuns x = Checks.withJob("* * * * *");
        Checks.due("next(0, 0)", x.next(0, 0), 1);
        Checks.due("next(0, 1439)", x.next(0, 1439), 1440);
        TimedRuns hourly = Checks.withJob("0 * * * *");
        Checks.due("next at one that holds", hourly.next(0, 60), 120);
        Checks.due("next before one that holds", hourly.next(0, 59), 60);
        Checks.due("next behind one that holds", hourly.next(0, 61), 120);
        Checks.due("next over midnight", hourly.next(0, 1380), 1440);
        TimedRuns leap = Checks.withJob("0 0 29 2 *");
        Checks.due("next leap day", leap.next(0, minute(2000, 2, 29, 0, 0)), minute(2004, 2, 29, 0, 0));
        TimedRuns late = Checks.withJob("59 23 31 12 *");
        Checks.due("next end of a year", late.next(0, 0), minute(2000, 12, 31, 23, 59));
        Checks.due("the one behind", late.next(0, late.next(0, 0)), minute(2001, 12, 31, 23, 59));
        // next has nothing to do with now.
        late.set(5000000);
        Checks.due("next with a later now", late.next(0, 0), minute(2000, 12, 31, 23, 59));
    }

    private static void nextEndsBelowTheLimit() {
        // The last minute is 21:19 on 9 January 2038.
        TimedRuns x = Checks.withJob("* * * * *");
        Checks.due("next at the last but one", x.next(0, LIMIT - 2), LIMIT - 1);
        Checks.due("next at the last", x.next(0, LIMIT - 1), -1);
        TimedRuns last = Checks.withJob("19 21 9 1 *");
        Checks.due("the last minute is found", last.next(0, minute(2037, 1, 9, 21, 19)), LIMIT - 1);
        TimedRuns beyond = Checks.withJob("20 21 9 1 *");
        Checks.due("one beyond is not", beyond.next(0, minute(2037, 1, 9, 21, 20)), -1);
        TimedRuns never = Checks.withJob("0 0 30 2 *");
        Checks.due("30 February", never.next(0, 0), -1);
        TimedRuns neither = Checks.withJob("0 0 31 4,6,9,11 *");
        Checks.due("31 April", neither.next(0, 0), -1);
        TimedRuns byWeekday = Checks.withJob("0 0 30 2 1");
        Checks.due("or a Monday in February", byWeekday.next(0, 0), minute(2000, 2, 7, 0, 0));
    }

    private static void nextIsTheFirstThatHolds() {
        String[] texts = {"*/17 3-5 * * *", "5 4 13 * 5", "5 4 */13 * 5", "0 0 1 1 0", "30 12 31 * *", "7 7 * */5 7",
            "59 23 28-31/3 2,4 *", "1-9/4 0 * 2 1-7/3"};
        for (String text : texts) {
            TimedRuns x = Checks.withJob(text);
            int from = 0;
            for (int i = 0; i < 12; i++) {
                int found = x.next(0, from);
                int due = from + 1;
                while (due < LIMIT && !x.holds(0, due)) {
                    due++;
                }
                Checks.due("next of " + text + " at " + from, found, due < LIMIT ? due : -1);
                from = (found + 1234567 * (i % 3)) % LIMIT;
            }
        }
    }

    private static void nextRefuses() {
        TimedRuns x = Checks.withJob("* * * * *");
        int[] outside = {-1, LIMIT, Integer.MIN_VALUE, Integer.MAX_VALUE};
        int[] noJob = {-1, 1, 6, Integer.MIN_VALUE, Integer.MAX_VALUE};
        for (int minute : outside) {
            Checks.thrown("next(0, " + minute + ")", x, Checks.ARGUMENT, () -> x.next(0, minute));
        }
        for (int job : noJob) {
            Checks.thrown("next(" + job + ", 0)", x, Checks.INDEX, () -> x.next(job, 0));
            Checks.thrown("next(" + job + ", -1)", x, Checks.INDEX, () -> x.next(job, -1));
        }
    }
}
