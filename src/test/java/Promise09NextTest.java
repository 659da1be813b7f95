/** Promise 9: next. */
public final class Promise09NextTest {
    private static final int[] OUTSIDE = {-1, Checks.LIMIT, Checks.LIMIT + 1, Checks.LEAST, Checks.MOST};

    public static void main(String[] args) {
        Checks.run(Promise09NextTest.class);
    }

    private static int minute(int year, int month, int day, int hour, int minute) {
        return Calendar.minute(year, month, day, hour, minute);
    }

    static void promise9AboveTheMinute() {
        Desk x = Desk.withJob("0 * * * *");
        Checks.due("at one that holds", x.next(0, 60), 120);
        Checks.due("before one that holds", x.next(0, 59), 60);
        Checks.due("behind one that holds", x.next(0, 61), 120);
        Checks.due("0 is not above 0", x.next(0, 0), 60);
        Desk each = Desk.withJob("* * * * *");
        Checks.due("next(0, 0)", each.next(0, 0), 1);
    }

    static void promise9OverMidnight() {
        Desk x = Desk.withJob("* * * * *");
        Checks.due("next(0, 1438)", x.next(0, 1438), 1439);
        Checks.due("next(0, 1439)", x.next(0, 1439), 1440);
        Desk y = Desk.withJob("30 6 * * *");
        Checks.due("on the same day", y.next(0, 389), 390);
        Checks.due("on the day behind", y.next(0, 390), 1830);
        Desk z = Desk.withJob("0 0 * * *");
        Checks.due("midnight", z.next(0, 0), 1440);
        Checks.due("midnight, from a minute before", z.next(0, 2879), 2880);
    }

    static void promise9OverMonthsAndYears() {
        Desk leap = Desk.withJob("0 0 29 2 *");
        int from = 0;
        for (int year = 2000; year <= 2036; year += 4) {
            int found = leap.next(0, from);
            Checks.due("the leap day of " + year, found, minute(year, 2, 29, 0, 0));
            from = found;
        }
        Checks.due("none behind", leap.next(0, from), Checks.NONE);
        Desk late = Desk.withJob("59 23 31 12 *");
        Checks.due("the end of 2000", late.next(0, 0), minute(2000, 12, 31, 23, 59));
        Checks.due("the end of 2001", late.next(0, late.next(0, 0)), minute(2001, 12, 31, 23, 59));
        Desk early = Desk.withJob("0 0 1 1 *");
        Checks.due("the first of 2001", early.next(0, 0), minute(2001, 1, 1, 0, 0));
    }

    static void promise9TheLastMinuteIsFound() {
        Desk x = Desk.withJob("* * * * *");
        Checks.due("next(0, 19999998)", x.next(0, Checks.LIMIT - 2), Checks.LIMIT - 1);
        Desk last = Desk.withJob("19 21 9 1 *");
        Checks.due("from a year before", last.next(0, minute(2037, 1, 9, 21, 19)), Checks.LIMIT - 1);
    }

    static void promise9NoneAtTheLimit() {
        Desk x = Desk.withJob("* * * * *");
        Checks.due("next(0, 19999999)", x.next(0, Checks.LIMIT - 1), Checks.NONE);
        Desk beyond = Desk.withJob("20 21 9 1 *");
        Checks.due("20000000 is none", beyond.next(0, minute(2037, 1, 9, 21, 20)), Checks.NONE);
        Desk dayBehind = Desk.withJob("0 0 10 1 *");
        Checks.due("nor is the day behind", dayBehind.next(0, minute(2037, 1, 10, 0, 0)), Checks.NONE);
    }

    static void promise9NoneWhenItNeverHolds() {
        for (String text : new String[] {"0 0 30 2 *", "0 0 31 2,4,6,9,11 *", "0 0 30,31 2 */2"}) {
            Desk x = Desk.withJob(text);
            Checks.due("next of " + text, x.next(0, 0), Checks.NONE);
        }
        Desk byWeekday = Desk.withJob("0 0 30 2 1");
        Checks.due("or a Monday in February", byWeekday.next(0, 0), minute(2000, 2, 7, 0, 0));
    }

    static void promise9IsTheFirstThatHolds() {
        String[] texts = {"*/17 3-5 * * *", "5 4 13 * 5", "5 4 */13 * 5", "0 0 1 1 0", "30 12 31 * *", "7 7 * */5 7",
            "59 23 28-31/3 2,4 *", "1-9/4 0 * 2 1-7/3"};
        for (String text : texts) {
            Desk x = Desk.withJob(text);
            int from = 0;
            for (int i = 0; i < 12; i++) {
                int found = x.next(0, from);
                Checks.due("next of " + text + " at " + from, found, firstAbove(text, from));
                from = (Math.max(0, found) + 1234567 * (i % 3)) % Checks.LIMIT;
            }
        }
    }

    /** The first minute above this one at which holds() is true, asked of one object after the other. */
    private static int firstAbove(String text, int minute) {
        TimedRuns asked = null;
        int left = 0;
        for (int at = minute + 1; at < Checks.LIMIT; at++) {
            if (left == 0) {
                asked = new TimedRuns();
                for (char sign : text.toCharArray()) {
                    asked.type(sign);
                }
                asked.job(0);
                left = 450;
            }
            left--;
            if (asked.holds(0, at)) {
                return at;
            }
        }
        return Checks.NONE;
    }

    static void promise9OutsideTheMinutes() {
        Desk x = Desk.withJob("* * * * *");
        for (int minute : OUTSIDE) {
            x.argument("next(0, " + minute + ")", d -> d.next(0, minute));
        }
    }

    static void promise9NoSuchJob() {
        Desk x = Desk.withJob("* * * * *");
        for (int job : new int[] {-1, 1, 5, 6, Checks.LEAST, Checks.MOST}) {
            x.index("next(" + job + ", 0)", d -> d.next(job, 0));
        }
        Desk six = Desk.withSixJobs("* * * * *");
        Checks.due("of the last job", six.next(5, 0), 1);
        six.index("next(6, 0)", d -> d.next(6, 0));
    }

    static void promise9NoSuchJobIsNamedFirst() {
        Desk x = Desk.withJob("* * * * *");
        for (int minute : OUTSIDE) {
            x.index("next(1, " + minute + ")", d -> d.next(1, minute));
            x.index("next(-1, " + minute + ")", d -> d.next(-1, minute));
        }
    }

    static void promise9WhateverNowIs() {
        Desk x = Desk.withTasks("59 23 31 12 *", 1);
        x.set(5000000);
        Checks.due("below now", x.next(0, 0), minute(2000, 12, 31, 23, 59));
        x.down(true);
        x.same("next(0, 0) when it is down", "" + minute(2000, 12, 31, 23, 59), d -> d.next(0, 0));
    }
}
