/** Promise 16: state. */
public final class Promise16StateTest {
    public static void main(String[] args) {
        Checks.run(Promise16StateTest.class);
    }

    private static Desk aChain() {
        Desk x = Desk.withJob("*/5 * * * *");
        x.task(0, 0, 2, 1);
        x.task(0, 1, 1, 0);
        x.task(0, 2, 1, 0);
        return x;
    }

    static void promise16EachStateFrom0To6() {
        Desk x = aChain();
        Checks.due("idle", x.states(0), "000");
        x.pass(4);
        Checks.due("idle still", x.states(0), "000");
        x.pass(1);
        Checks.due("running, and waiting", x.states(0), "311");
        x.end(0, 0, false);
        Checks.due("pausing", x.states(0), "211");
        x.pass(1);
        Checks.due("running again", x.states(0), "311");
        x.end(0, 0, true);
        Checks.due("done", x.states(0), "411");
        x.pass(1);
        x.end(0, 1, false);
        Checks.due("failed, and left out", x.states(0), "456");
    }

    static void promise16StaysUntilTheNextRunBegins() {
        Desk x = aChain();
        x.pass(5);
        x.end(0, 0, true);
        x.pass(1);
        x.end(0, 1, false);
        x.pass(3);
        Checks.due("they stay", x.states(0), "456");
        x.pass(1);
        Checks.due("all wait but what runs", x.states(0), "311");
    }

    static void promise16NoSuchJob() {
        Desk x = aChain();
        for (int job : new int[] {-1, 1, 5, 6, Checks.LEAST, Checks.MOST}) {
            x.same("state(" + job + ", 0)", "-1", d -> d.state(job, 0));
        }
    }

    static void promise16NoSuchTask() {
        Desk x = aChain();
        Checks.due("the last task", x.state(0, 2), 0);
        for (int task : new int[] {-1, 3, 5, 6, Checks.LEAST, Checks.MOST}) {
            x.same("state(0, " + task + ")", "-1", d -> d.state(0, task));
        }
    }

    static void promise16OfTheLastJobsLastTask() {
        Desk x = Desk.withSixJobs("1 * * * *");
        x.tasks(5, 6);
        x.slots(6);
        x.pass(1);
        x.same("state(5, 5)", "3", d -> d.state(5, 5));
        x.same("state(5, 6)", "-1", d -> d.state(5, 6));
        x.same("state(6, 5)", "-1", d -> d.state(6, 5));
        x.same("state(4, 0), a job without tasks", "-1", d -> d.state(4, 0));
    }

    static void promise16OfEachJobItsOwn() {
        Desk x = Desk.withTasks("1 * * * *", 1);
        x.job("2 * * * *", 0);
        x.tasks(1, 2);
        x.pass(1);
        Checks.due("one runs", x.states(0), "3");
        Checks.due("the other is idle", x.states(1), "00");
    }
}
