/** Promise 17: count. */
public final class Promise17CountTest {
    public static void main(String[] args) {
        Checks.run(Promise17CountTest.class);
    }

    private static void counts(Desk x, int job, String want) {
        StringBuilder got = new StringBuilder();
        for (int what = 0; what < 5; what++) {
            got.append(what > 0 ? " " : "").append(x.count(job, what));
        }
        Checks.due("the counts of " + job, got.toString(), want);
    }

    static void promise17OfAJobThatWasNeverFired() {
        Desk x = Desk.withTasks("0 * * * *", 3);
        counts(x, 0, "0 0 0 3 0");
        x.pass(59);
        counts(x, 0, "0 0 0 3 0");
    }

    static void promise17BegunAndMissed() {
        Desk x = Desk.withTasks("*/5 * * * *", 1);
        x.pass(5);
        counts(x, 0, "1 0 1 1 1");
        x.pass(10);
        counts(x, 0, "1 2 1 1 1");
        x.end(0, 0, true);
        counts(x, 0, "1 2 0 1 0");
        x.pass(5);
        counts(x, 0, "2 2 1 1 1");
    }

    static void promise17UnderWayWhileOnePauses() {
        Desk x = Desk.withJob("1 0 1 1 *");
        x.task(0, 0, 2, 10);
        x.pass(1);
        x.end(0, 0, false);
        counts(x, 0, "1 0 1 1 0");
        x.pass(10);
        x.end(0, 0, false);
        counts(x, 0, "1 0 0 1 0");
    }

    static void promise17OfAJobWithoutTasks() {
        Desk x = Desk.withJob("* * * * *");
        x.pass(1);
        counts(x, 0, "1 0 0 0 0");
        x.pass(4999);
        counts(x, 0, "5000 0 0 0 0");
    }

    static void promise17TasksFrom0To6() {
        Desk x = Desk.withJob("* * * * *");
        for (int tasks = 0; tasks <= 6; tasks++) {
            Checks.due("count(0, 3)", x.count(0, 3), tasks);
            if (tasks < 6) {
                x.task(0, 0, 1, 0);
            }
        }
        Checks.answer(() -> x.task(0, 0, 1, 0));
        Checks.due("behind a refused one", x.count(0, 3), 6);
    }

    static void promise17RunningIsOfAllJobs() {
        Desk x = new Desk();
        x.slots(6);
        for (int job = 0; job < 3; job++) {
            x.job("1 0 1 1 *", 0);
            x.tasks(job, job);
        }
        x.pass(1);
        for (int job : new int[] {0, 1, 2, 3, -1, 6, Checks.LEAST, Checks.MOST}) {
            x.same("count(" + job + ", 4)", "3", d -> d.count(job, 4));
        }
        x.end(1, 0, true);
        x.end(2, 0, false);
        Checks.due("one is left", x.count(0, 4), 1);
        Checks.due("of no job at all", new Desk().count(0, 4), 0);
    }

    static void promise17AnotherNumber() {
        Desk x = Desk.withTasks("* * * * *", 1);
        x.pass(1);
        for (int what : new int[] {-1, 5, 6, Checks.LEAST, Checks.MOST}) {
            x.same("count(0, " + what + ")", "-1", d -> d.count(0, what));
            x.same("count(1, " + what + "), no such job", "-1", d -> d.count(1, what));
        }
    }

    static void promise17NoSuchJob() {
        Desk x = Desk.withTasks("* * * * *", 1);
        x.pass(1);
        for (int job : new int[] {-1, 1, 5, 6, Checks.LEAST, Checks.MOST}) {
            for (int what = 0; what < 4; what++) {
                int w = what;
                x.same("count(" + job + ", " + what + ")", "-1", d -> d.count(job, w));
            }
        }
        Desk six = Desk.withSixJobs("* * * * *");
        six.pass(2);
        counts(six, 5, "2 0 0 0 0");
        counts(six, 6, "-1 -1 -1 -1 0");
    }

    static void promise17OfEachJobItsOwn() {
        Desk x = Desk.withTasks("* * * * *", 1);
        x.job("*/2 * * * *", 0);
        x.job("0 * * * *", 0);
        x.tasks(2, 2);
        x.pass(10);
        counts(x, 0, "1 9 1 1 1");
        counts(x, 1, "5 0 0 0 1");
        counts(x, 2, "0 0 0 2 1");
    }
}
