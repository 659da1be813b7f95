/** Promise 11: pass. What a step does, TermsJobsTest asks. */
public final class Promise11PassTest {
    private static final int LAST = Checks.LIMIT - 1;

    public static void main(String[] args) {
        Checks.run(Promise11PassTest.class);
    }

    static void promise11OneStep() {
        Desk x = Desk.withTasks("1 * * * *", 1);
        Checks.due("pass(1)", x.pass(1), 1);
        Checks.due("now()", x.now(), 1);
        Checks.due("begun", x.count(0, 0), 1);
    }

    static void promise11FiveThousandSteps() {
        Desk x = Desk.withJob("*/2 * * * *");
        Checks.due("pass(5000)", x.pass(5000), 0);
        Checks.due("now()", x.now(), 5000);
        Checks.due("begun", x.count(0, 0), 2500);
        Checks.due("the last step's entry", x.entry(0, 1), 5000);
    }

    static void promise11NotFrom1To5000() {
        Desk x = Desk.withTasks("* * * * *", 1);
        for (int n : new int[] {0, 5001, -1, -5000, Checks.LEAST, Checks.MOST}) {
            x.argument("pass(" + n + ")", d -> d.pass(n));
        }
        x.down(true);
        for (int n : new int[] {0, 5001, -1, Checks.LEAST, Checks.MOST}) {
            x.argument("pass(" + n + ") when it is down", d -> d.pass(n));
        }
    }

    static void promise11UpToTheLastMinute() {
        Desk x = Desk.withTasks("* * * * *", 1);
        x.set(LAST - 5000);
        Checks.due("pass(5000)", x.pass(5000), 1);
        Checks.due("now()", x.now(), LAST);
        Desk y = new Desk();
        y.set(LAST - 1);
        Checks.due("pass(1)", y.pass(1), 0);
        Checks.due("now()", y.now(), LAST);
    }

    static void promise11BeyondTheLastMinute() {
        Desk x = Desk.withTasks("* * * * *", 1);
        x.set(LAST - 4999);
        x.state("pass(5000) to 20000000", d -> d.pass(5000));
        Checks.due("none of its steps was made", x.entries(), 0);
        x.set(LAST - 9);
        x.state("pass(10) to 20000000", d -> d.pass(10));
        x.state("pass(11) beyond it", d -> d.pass(11));
        x.state("pass(5000) beyond it", d -> d.pass(5000));
        Checks.due("pass(9)", x.pass(9), 1);
        x.state("pass(1) at the last", d -> d.pass(1));
    }

    static void promise11BeyondTheLastMinuteWhenDown() {
        Desk x = Desk.withTasks("* * * * *", 1);
        x.set(LAST - 9);
        x.down(true);
        x.state("pass(10) to 20000000", d -> d.pass(10));
        Checks.due("pass(9)", x.pass(9), 0);
        Checks.due("now()", x.now(), LAST);
        x.state("pass(1) at the last", d -> d.pass(1));
        Checks.due("up at the last", x.down(false), 1);
        Checks.due("entries", x.log(), "1@19999999:0 3@19999999:0.0");
    }

    static void promise11ArgumentIsNamedFirst() {
        Desk x = Desk.withJob("* * * * *");
        x.set(LAST);
        x.argument("pass(5001) at the last", d -> d.pass(5001));
        x.argument("pass(0) at the last", d -> d.pass(0));
        x.argument("pass(most) at the last", d -> d.pass(Checks.MOST));
        x.state("pass(5000) at the last", d -> d.pass(5000));
    }

    static void promise11AnswersWhatWasStartedInThem() {
        Desk x = Desk.withTasks("*/10 * * * *", 3);
        Checks.due("nine steps", x.pass(9), 0);
        Checks.due("the tenth", x.pass(1), 2);
        Checks.due("none more", x.pass(9), 0);
        x.end(0, 0, true);
        x.end(0, 1, true);
        Checks.due("the third, not the first two", x.pass(5), 1);
        x.end(0, 2, true);
        Checks.due("of the next run", x.pass(40), 2);
    }

    static void promise11AnswersOfSeveralSteps() {
        Desk x = new Desk();
        x.slots(6);
        for (int job = 0; job < 3; job++) {
            x.job(10 * job + 5 + " * * * *", 0);
            x.tasks(job, 2);
        }
        Checks.due("of three steps among many", x.pass(30), 6);
        Checks.due("entries", x.log(), "1@5:0 3@5:0.0 3@5:0.1 1@15:1 3@15:1.0 3@15:1.1 1@25:2 3@25:2.0 3@25:2.1");
    }

    static void promise11WhileDownMinutesPass() {
        Desk x = Desk.withTasks("* * * * *", 1);
        x.down(true);
        Checks.due("pass(5000)", x.pass(5000), 0);
        Checks.due("pass(1)", x.pass(1), 0);
        Checks.due("now()", x.now(), 5001);
        Checks.due("no run", x.count(0, 0), 0);
        Checks.due("no entry", x.entries(), 0);
        Checks.due("no task", x.states(0), "0");
    }

    static void promise11WhileDownNothingEndsItsPause() {
        Desk x = Desk.withJob("1 0 1 1 *");
        x.task(0, 0, 2, 5);
        x.pass(1);
        x.end(0, 0, false);
        x.down(true);
        Checks.due("pass(10)", x.pass(10), 0);
        Checks.due("pausing", x.state(0, 0), 2);
        x.down(false);
        Checks.due("running", x.state(0, 0), 3);
    }

    static void promise11WithoutJobs() {
        Desk x = new Desk();
        Checks.due("pass(5000)", x.pass(5000), 0);
        Checks.due("now()", x.now(), 5000);
        Checks.due("entries()", x.entries(), 0);
    }
}
