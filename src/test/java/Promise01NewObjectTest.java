/** Promise 1: a new object. */
public final class Promise01NewObjectTest {
    public static void main(String[] args) {
        Checks.run(Promise01NewObjectTest.class);
    }

    static void promise1NowIs0() {
        Desk x = new Desk();
        Checks.due("now()", x.now(), 0);
        x.job("* * * * *", 0);
        x.pass(1);
        Checks.due("the minute of the first step", x.entry(0, 1), 1);
    }

    static void promise1ThereAreNoJobs() {
        Desk x = new Desk();
        for (int job : new int[] {-1, 0, 1, 5, 6}) {
            for (int what = 0; what < 4; what++) {
                Checks.due("count(" + job + ", " + what + ")", x.count(job, what), Checks.NONE);
            }
            Checks.due("state(" + job + ", 0)", x.state(job, 0), Checks.NONE);
        }
        x.index("task(0, 0, 1, 0)", d -> d.task(0, 0, 1, 0));
        x.index("holds(0, 0)", d -> d.holds(0, 0) ? 1 : 0);
        x.index("next(0, 0)", d -> d.next(0, 0));
        x.index("end(0, 0, true)", d -> d.end(0, 0, true));
        Checks.due("nothing is started", x.pass(100), 0);
        Checks.due("the first job's number", x.job("* * * * *", 0), 0);
    }

    static void promise1NothingRuns() {
        Checks.due("count(0, 4)", new Desk().count(0, 4), 0);
    }

    static void promise1ThereAreTwoSlots() {
        Desk x = Desk.withTasks("* * * * *", 6);
        Checks.due("started", x.pass(1), 2);
        Checks.due("running", x.count(0, 4), 2);
        Checks.due("started behind", x.pass(1), 0);
    }

    static void promise1NothingIsTyped() {
        Desk x = new Desk();
        Checks.due("room for text", x.room(), 60);
        Checks.due("job(0)", Checks.answer(() -> x.job(0)), Checks.ARGUMENT);
        Checks.due("fault()", x.fault(), 0);
    }

    static void promise1ItIsUp() {
        Desk x = new Desk();
        x.state("down(false)", d -> d.down(false));
        Checks.due("down(true)", x.down(true), 0);
        Desk y = Desk.withTasks("* * * * *", 1);
        Checks.due("a step is made", y.pass(1), 1);
    }

    static void promise1TheLogIsEmpty() {
        Desk x = new Desk();
        Checks.due("entries()", x.entries(), 0);
        for (int part = 0; part < 4; part++) {
            int p = part;
            x.index("entry(0, " + part + ")", d -> d.entry(0, p));
        }
        x.index("entry(63, 0)", d -> d.entry(63, 0));
    }

    static void promise1ObjectsAreApart() {
        Desk one = Desk.withTasks("* * * * *", 1);
        Desk other = new Desk();
        one.pass(3);
        one.type("abc");
        one.down(true);
        Checks.due("now() of another", other.now(), 0);
        Checks.due("entries() of another", other.entries(), 0);
        Checks.due("count(0, 3) of another", other.count(0, 3), Checks.NONE);
        Checks.due("job of another", other.job("1 * * * *", 0), 0);
        Checks.due("down(true) of another", other.down(true), 0);
    }
}
