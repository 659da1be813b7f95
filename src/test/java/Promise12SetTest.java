/** Promise 12: set. */
public final class Promise12SetTest {
    public static void main(String[] args) {
        Checks.run(Promise12SetTest.class);
    }

    static void promise12ToNowItself() {
        Desk x = Desk.withTasks("* * * * *", 1);
        x.same("set(0) at 0", "0", Desk.setting(0));
        x.set(500);
        x.same("set(500) at 500", "0", Desk.setting(500));
        Checks.due("now()", x.now(), 500);
    }

    static void promise12OneMinuteOn() {
        Desk x = new Desk();
        x.set(1);
        Checks.due("now()", x.now(), 1);
    }

    static void promise12BelowNow() {
        Desk x = Desk.withTasks("* * * * *", 1);
        x.argument("set(-1) at 0", Desk.setting(-1));
        x.set(500);
        for (int minute : new int[] {499, 0, -1, Checks.LEAST}) {
            x.argument("set(" + minute + ") at 500", Desk.setting(minute));
        }
    }

    static void promise12ToTheLastMinute() {
        Desk x = new Desk();
        x.set(Checks.LIMIT - 1);
        Checks.due("now()", x.now(), Checks.LIMIT - 1);
        x.same("set to the last at the last", "0", Desk.setting(Checks.LIMIT - 1));
    }

    static void promise12BeyondTheLastMinute() {
        Desk x = Desk.withTasks("* * * * *", 1);
        for (int minute : new int[] {Checks.LIMIT, Checks.LIMIT + 1, Checks.MOST}) {
            x.argument("set(" + minute + ")", Desk.setting(minute));
        }
        x.set(Checks.LIMIT - 1);
        x.argument("set(20000000) at the last", Desk.setting(Checks.LIMIT));
    }

    static void promise12NothingHappensInBetweenNorThen() {
        Desk x = Desk.withTasks("* * * * *", 1);
        x.set(1000);
        Checks.due("no entries", x.entries(), 0);
        Checks.due("no run", x.count(0, 0), 0);
        Checks.due("idle", x.states(0), "0");
        Checks.due("the step behind", x.pass(1), 1);
        Checks.due("its entries", x.log(), "1@1001:0 3@1001:0.0");
    }

    static void promise12NotAtThatMinuteLaterEither() {
        Desk x = Desk.withTasks("0 * * * *", 1);
        x.set(60);
        Checks.due("until the next hour", x.pass(59), 0);
        Checks.due("the next hour", x.pass(1), 1);
        Desk y = Desk.withTasks("0 * * * *", 1);
        y.set(60);
        y.down(true);
        y.pass(59);
        Checks.due("nor when it comes up", y.down(false), 0);
    }

    static void promise12ARunUnderWay() {
        Desk x = Desk.withJob("1 0 1 1 *");
        x.task(0, 0, 2, 50);
        x.task(0, 1, 1, 0);
        x.pass(1);
        x.state("while one runs", Desk.setting(600));
        x.end(0, 0, false);
        x.state("while one pauses", Desk.setting(600));
        x.pass(50);
        x.end(0, 0, true);
        x.state("while one waits", Desk.setting(600));
        x.pass(1);
        x.end(0, 1, false);
        x.set(600);
        Checks.due("when the run is over", x.now(), 600);
    }

    static void promise12ARunOfAnyJob() {
        for (int job = 0; job < 6; job++) {
            Desk x = Desk.withSixJobs("* * * * *");
            x.task(job, 0, 1, 0);
            x.pass(1);
            x.state("job " + job + " alone is under way", Desk.setting(600));
            x.end(job, 0, true);
            x.set(600);
            Checks.due("now()", x.now(), 600);
        }
    }

    static void promise12JobsWithoutTasksAreNeverUnderWay() {
        Desk x = Desk.withJob("* * * * *");
        x.pass(1);
        x.set(600);
        Checks.due("now()", x.now(), 600);
    }

    static void promise12WhileDown() {
        Desk x = Desk.withTasks("* * * * *", 1);
        x.down(true);
        x.state("set(600)", Desk.setting(600));
        x.state("set(0)", Desk.setting(0));
        x.down(false);
        x.set(600);
        Checks.due("when it is up", x.now(), 600);
    }

    static void promise12StateIsNamedFirst() {
        Desk x = Desk.withTasks("* * * * *", 1);
        x.down(true);
        x.state("set(-1), down", Desk.setting(-1));
        x.state("set(20000000), down", Desk.setting(Checks.LIMIT));
        x.pass(5);
        x.down(false);
        x.state("set(-1), a run under way", Desk.setting(-1));
        x.state("set(4), a run under way", Desk.setting(4));
        x.state("set(20000000), a run under way", Desk.setting(Checks.LIMIT));
        x.state("set(5) to now, a run under way", Desk.setting(5));
    }
}
