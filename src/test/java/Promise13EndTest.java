/** Promise 13: end. What ending is, TermsJobsTest asks. */
public final class Promise13EndTest {
    public static void main(String[] args) {
        Checks.run(Promise13EndTest.class);
    }

    private static void refuses(Desk x, String what, int job, int task, String name) {
        x.same(what + ", well", name, d -> d.end(job, task, true));
        x.same(what + ", badly", name, d -> d.end(job, task, false));
    }

    static void promise13AnswersItsState() {
        Desk x = Desk.withJob("1 0 1 1 *");
        x.task(0, 0, 2, 0);
        x.task(0, 0, 1, 0);
        x.pass(1);
        Checks.due("badly, one of two tries", x.end(0, 0, false), 2);
        Checks.due("well", x.end(0, 1, true), 4);
        x.pass(1);
        Checks.due("badly, two of two tries", x.end(0, 0, false), 5);
    }

    static void promise13NothingIsStartedByIt() {
        Desk x = Desk.withJob("1 0 1 1 *");
        x.task(0, 0, 2, 0);
        x.task(0, 1, 1, 0);
        x.task(0, 0, 1, 0);
        x.slots(1);
        x.pass(1);
        x.end(0, 0, false);
        Checks.due("a pause of none, and one that waits", x.states(0), "211");
        x.pass(1);
        x.end(0, 0, true);
        Checks.due("what needed it, and one that waits", x.states(0), "411");
        Checks.due("nothing runs", x.count(0, 4), 0);
        Checks.due("the next step starts", x.pass(1), 1);
        Checks.due("states", x.states(0), "431");
    }

    static void promise13NoSuchJob() {
        Desk x = Desk.withTasks("* * * * *", 1);
        x.pass(1);
        for (int job : new int[] {-1, 1, 5, 6, Checks.LEAST, Checks.MOST}) {
            refuses(x, "end(" + job + ", 0)", job, 0, Checks.INDEX);
        }
        Desk six = Desk.withSixJobs("* * * * *");
        six.task(5, 0, 1, 0);
        six.pass(1);
        refuses(six, "end(6, 0)", 6, 0, Checks.INDEX);
        Checks.due("of the last job", six.end(5, 0, true), 4);
    }

    static void promise13NoSuchTask() {
        Desk x = Desk.withTasks("* * * * *", 1);
        x.pass(1);
        for (int task : new int[] {-1, 1, 5, 6, Checks.LEAST, Checks.MOST}) {
            refuses(x, "end(0, " + task + ")", 0, task, Checks.INDEX);
        }
        Desk six = Desk.withTasks("* * * * *", 6);
        six.slots(6);
        six.pass(1);
        refuses(six, "end(0, 6)", 0, 6, Checks.INDEX);
        Checks.due("the last task", six.end(0, 5, true), 4);
        Desk none = Desk.withJob("* * * * *");
        refuses(none, "end(0, 0) without tasks", 0, 0, Checks.INDEX);
    }

    static void promise13ATaskOfAnotherJob() {
        Desk x = Desk.withTasks("* * * * *", 1);
        x.job("* * * * *", 0);
        x.tasks(1, 2);
        x.pass(1);
        refuses(x, "end(0, 1)", 0, 1, Checks.INDEX);
        Checks.due("end(1, 0)", x.end(1, 0, true), 4);
        Checks.due("the other's runs on", x.state(0, 0), 3);
    }

    static void promise13NotRunning() {
        Desk x = Desk.withJob("1 0 1 1 *");
        x.task(0, 0, 2, 5);
        x.task(0, 1, 1, 0);
        refuses(x, "an idle one", 0, 0, Checks.STATE);
        x.pass(1);
        refuses(x, "a waiting one", 0, 1, Checks.STATE);
        x.end(0, 0, false);
        refuses(x, "a pausing one", 0, 0, Checks.STATE);
        x.pass(5);
        x.end(0, 0, false);
        refuses(x, "a failed one", 0, 0, Checks.STATE);
        refuses(x, "one left out", 0, 1, Checks.STATE);
        Desk y = Desk.withTasks("1 0 1 1 *", 2);
        y.pass(1);
        y.end(0, 0, true);
        refuses(y, "a done one", 0, 0, Checks.STATE);
        y.end(0, 1, true);
        refuses(y, "a done one of a run that is over", 0, 0, Checks.STATE);
    }

    static void promise13WhileDown() {
        Desk x = Desk.withTasks("1 0 1 1 *", 3);
        x.pass(1);
        x.down(true);
        refuses(x, "a running one", 0, 0, Checks.STATE);
        refuses(x, "a waiting one", 0, 2, Checks.STATE);
        x.pass(1);
        refuses(x, "a running one, later", 0, 1, Checks.STATE);
    }

    static void promise13NoSuchIsNamedFirst() {
        Desk x = Desk.withTasks("1 0 1 1 *", 1);
        x.down(true);
        refuses(x, "no such task, down", 0, 1, Checks.INDEX);
        refuses(x, "no such task, down", 0, -1, Checks.INDEX);
        refuses(x, "no such job, down", 1, 0, Checks.INDEX);
        refuses(x, "no such job, down", -1, 0, Checks.INDEX);
    }

    static void promise13AtTheLastMinute() {
        Desk x = Desk.withJob("* * * * *");
        x.task(0, 0, 4, 1000);
        x.set(Checks.LIMIT - 2);
        x.pass(1);
        Checks.due("badly", x.end(0, 0, false), 2);
        Checks.due("its entry", x.log(1), "5@19999999:0.0");
    }
}
