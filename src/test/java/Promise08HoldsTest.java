/** Promise 8: holds. When an expression holds, TermsExpressionTest asks. */
public final class Promise08HoldsTest {
    private static final int[] OUTSIDE = {-1, Checks.LIMIT, Checks.LIMIT + 1, Checks.LEAST, Checks.MOST};

    public static void main(String[] args) {
        Checks.run(Promise08HoldsTest.class);
    }

    static void promise8AtTheFirstMinute() {
        Desk x = Desk.withJob("0 0 1 1 6");
        Checks.due("holds(0, 0)", x.holds(0, 0), true);
        Checks.due("holds(0, 1)", x.holds(0, 1), false);
    }

    static void promise8AtTheLastMinute() {
        // 21:19 on Saturday, 9 January 2038.
        Desk x = Desk.withJob("19 21 9 1 6");
        Checks.due("holds(0, 19999999)", x.holds(0, Checks.LIMIT - 1), true);
        Checks.due("holds(0, 19999998)", x.holds(0, Checks.LIMIT - 2), false);
    }

    static void promise8OutsideTheMinutes() {
        Desk x = Desk.withJob("* * * * *");
        for (int minute : OUTSIDE) {
            x.argument("holds(0, " + minute + ")", d -> d.holds(0, minute) ? 1 : 0);
        }
    }

    static void promise8NoSuchJob() {
        Desk x = Desk.withJob("* * * * *");
        for (int job : new int[] {-1, 1, 5, 6, Checks.LEAST, Checks.MOST}) {
            x.index("holds(" + job + ", 0)", d -> d.holds(job, 0) ? 1 : 0);
        }
        Desk six = Desk.withSixJobs("* * * * *");
        Checks.due("of the last job", six.holds(5, 0), true);
        six.index("holds(6, 0)", d -> d.holds(6, 0) ? 1 : 0);
    }

    static void promise8NoSuchJobIsNamedFirst() {
        Desk x = Desk.withJob("* * * * *");
        for (int minute : OUTSIDE) {
            x.index("holds(1, " + minute + ")", d -> d.holds(1, minute) ? 1 : 0);
            x.index("holds(-1, " + minute + ")", d -> d.holds(-1, minute) ? 1 : 0);
        }
    }

    static void promise8OfEachJobItsOwn() {
        Desk x = new Desk();
        for (int job = 0; job < 6; job++) {
            x.job(job + " * * * *", 0);
        }
        for (int job = 0; job < 6; job++) {
            for (int minute = 0; minute < 6; minute++) {
                Checks.due("holds(" + job + ", " + minute + ")", x.holds(job, minute), job == minute);
            }
        }
    }

    static void promise8WhateverNowIs() {
        Desk x = Desk.withJob("7 * * * *");
        x.set(1000);
        Checks.due("below now", x.holds(0, 7), true);
        x.down(true);
        x.same("holds(0, 67) when it is down", "1", d -> d.holds(0, 67) ? 1 : 0);
        x.same("holds(0, 68) when it is down", "0", d -> d.holds(0, 68) ? 1 : 0);
    }
}
