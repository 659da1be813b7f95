/** Promise 3: job. */
public final class Promise03JobTest {
    public static void main(String[] args) {
        Checks.run(Promise03JobTest.class);
    }

    static void promise3SixJobsInTheirOrder() {
        Desk x = new Desk();
        for (int job = 0; job < 6; job++) {
            Checks.due("number", x.job(job + " * * * *", 10 - job), job);
            for (int what = 0; what < 4; what++) {
                Checks.due("count(" + job + ", " + what + ")", x.count(job, what), 0);
            }
            Checks.due("no task yet", x.state(job, 0), Checks.NONE);
            Checks.due("no job behind it", x.count(job + 1, 0), Checks.NONE);
        }
        for (int job = 0; job < 6; job++) {
            Checks.due("next of " + job, x.next(job, 100), 120 + job);
        }
    }

    static void promise3ASeventhIsUnsupported() {
        Desk x = Desk.withSixJobs("7 * * * *");
        x.type("* * * * *");
        x.unsupported("a seventh job", d -> d.job(0));
        Checks.due("the text has stayed", x.room(), 51);
    }

    static void promise3UnsupportedIsNamedFirst() {
        Desk x = Desk.withSixJobs("7 * * * *");
        x.unsupported("a seventh job of no text", d -> d.job(0));
        x.type("* * x");
        x.unsupported("a seventh job of no expression", d -> d.job(0));
        Checks.due("fault()", x.fault(), Checks.NONE);
        Checks.due("the text has stayed", x.room(), 55);
    }

    static void promise3NoExpressionIsRefused() {
        Desk x = new Desk();
        Checks.due("job() of no text", Checks.answer(() -> x.job(0)), Checks.ARGUMENT);
        x.argument("job() of no text again", d -> d.job(0));
        x.type("* * * *");
        Checks.due("job() of four fields", Checks.answer(() -> x.job(0)), Checks.ARGUMENT);
        x.argument("job() of four fields again", d -> d.job(0));
        Checks.due("no job", x.count(0, 0), Checks.NONE);
    }

    static void promise3TheTextStaysWhenItThrows() {
        Desk x = new Desk();
        x.type("17 * * *");
        Checks.due("job() too early", Checks.answer(() -> x.job(7)), Checks.ARGUMENT);
        Checks.due("room", x.room(), 52);
        x.type(" *");
        Checks.due("its number is the first still", x.job(7), 0);
        Checks.due("next(0, 0)", x.next(0, 0), 17);
    }

    static void promise3TheTextIsEmptyThen() {
        Desk x = Desk.withJob("* * * * *");
        Checks.due("room", x.room(), 60);
        Checks.due("job() of the empty text", Checks.answer(() -> x.job(7)), Checks.ARGUMENT);
        Checks.due("fault() of the empty text", x.fault(), 0);
        Checks.due("the next job's number", x.job("5 * * * *", 0), 1);
        Checks.due("its own text alone", x.next(1, 0), 5);
        Checks.due("the other has its own still", x.next(0, 0), 1);
    }

    static void promise3ARankMayBeAnyInt() {
        Desk x = new Desk();
        int[] ranks = {Checks.LEAST, -1, Checks.MOST, 0, 1, Checks.LEAST + 1};
        for (int rank : ranks) {
            x.task(x.job("* * * * *", rank), 0, 1, 0);
        }
        x.slots(6);
        x.pass(1);
        Checks.due("in this order", x.log(6), "3@1:2.0 3@1:4.0 3@1:3.0 3@1:1.0 3@1:5.0 3@1:0.0");
    }

    static void promise3NothingIsFiredByIt() {
        Desk x = new Desk();
        x.set(60);
        x.job("0 * * * *", 0);
        Checks.due("no run at now", x.count(0, 0), 0);
        x.task(0, 0, 1, 0);
        x.pass(59);
        Checks.due("none before the hour", x.count(0, 0), 0);
        x.pass(1);
        Checks.due("at the hour", x.count(0, 0), 1);
    }

    static void promise3WhileOthersRunOrTheDeskIsDown() {
        Desk x = Desk.withTasks("* * * * *", 1);
        x.pass(1);
        Checks.due("while a run is under way", x.job("* * * * *", 0), 1);
        x.down(true);
        Checks.due("while it is down", x.job("* * * * *", 0), 2);
    }
}
