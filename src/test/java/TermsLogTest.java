/** What the terms say of the log: an entry of each kind, in order, with its minute, job and task. */
public final class TermsLogTest {
    /** Holds at minute 1 and then not for a year. */
    private static final String ONCE = "1 0 1 1 *";

    public static void main(String[] args) {
        Checks.run(TermsLogTest.class);
    }

    static void termsLogKind1And3OfARunAndItsTasks() {
        Desk x = Desk.withTasks(ONCE, 2);
        x.pass(3);
        Checks.due("entries", x.log(), "1@1:0 3@1:0.0 3@1:0.1");
    }

    static void termsLogKind2OfAMissedRun() {
        Desk x = Desk.withTasks("*/2 * * * *", 1);
        x.pass(4);
        Checks.due("entries", x.log(), "1@2:0 3@2:0.0 2@4:0");
        Checks.due("no task", x.entry(0, 3), Checks.NONE);
    }

    static void termsLogKind4OfADoneTask() {
        Desk x = Desk.withTasks(ONCE, 2);
        x.pass(3);
        x.end(0, 1, true);
        Checks.due("entry", x.log(1), "4@3:0.1");
    }

    static void termsLogKind5OfAPausingTask() {
        Desk x = Desk.withJob(ONCE);
        x.task(0, 0, 2, 100);
        x.pass(3);
        x.end(0, 0, false);
        Checks.due("at now, not at the end of the pause", x.log(1), "5@3:0.0");
        x.pass(100);
        Checks.due("running again", x.log(1), "3@103:0.0");
    }

    static void termsLogKind6And7OfAFailedTask() {
        Desk x = Desk.withTasks(ONCE, 2);
        x.task(0, 2, 1, 0);
        x.task(0, 1, 1, 0);
        x.task(0, 4, 1, 0);
        x.pass(3);
        x.end(0, 1, false);
        Checks.due("the least left out first", x.log(3), "6@3:0.1 7@3:0.2 7@3:0.4");
    }

    static void termsLogKind8OfARunThatIsOver() {
        Desk x = Desk.withTasks(ONCE, 1);
        x.task(0, 1, 1, 0);
        x.pass(2);
        x.end(0, 0, false);
        Checks.due("behind all others", x.log(3), "6@2:0.0 7@2:0.1 8@2:0");
        Checks.due("no task", x.entry(0, 3), Checks.NONE);
    }

    static void termsLogKind8OfARunWithoutTasks() {
        Desk x = Desk.withJob(ONCE);
        x.pass(3);
        Checks.due("entries", x.log(), "1@1:0 8@1:0");
        Checks.due("no task of 1", x.entry(1, 3), Checks.NONE);
        Checks.due("no task of 8", x.entry(0, 3), Checks.NONE);
    }

    static void termsLogTheFirstAndTheLastJobAndTask() {
        Desk x = Desk.withSixJobs(ONCE);
        x.tasks(0, 1);
        x.tasks(5, 6);
        x.slots(6);
        x.pass(1);
        x.end(5, 4, true);
        x.pass(1);
        Checks.due("running", x.log(2), "4@1:5.4 3@2:5.5");
        x.end(5, 5, false);
        x.end(0, 0, true);
        Checks.due("ends", x.log(3), "6@2:5.5 4@2:0.0 8@2:0");
    }

    static void termsLogTheLastMinute() {
        Desk x = Desk.withTasks("* * * * *", 1);
        x.set(Checks.LIMIT - 2);
        x.pass(1);
        Checks.due("entries", x.log(), "1@19999999:0 3@19999999:0.0");
    }

    static void termsLogARunInItsOrder() {
        Desk x = Desk.withJob("*/5 * * * *");
        x.task(0, 0, 2, 1);
        x.task(0, 1, 1, 0);
        x.task(0, 2, 1, 0);
        x.job("5 * * * *", 9);
        x.task(1, 0, 1, 0);
        x.pass(5);
        Checks.due("fired by jobs, started by rank", x.log(), "1@5:0 1@5:1 3@5:1.0 3@5:0.0");
        x.end(0, 0, false);
        x.end(1, 0, true);
        x.pass(5);
        Checks.due("later", x.log(5), "5@5:0.0 4@5:1.0 8@5:1 3@6:0.0 2@10:0");
        x.end(0, 0, false);
        Checks.due("the last", x.log(4), "6@10:0.0 7@10:0.1 7@10:0.2 8@10:0");
        Checks.due("how many", x.entries(), 13);
    }
}
