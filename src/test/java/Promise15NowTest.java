/** Promise 15: now. */
public final class Promise15NowTest {
    public static void main(String[] args) {
        Checks.run(Promise15NowTest.class);
    }

    static void promise15AtFirst() {
        Desk x = new Desk();
        x.same("now()", "0", d -> d.now());
    }

    static void promise15GrowsBySteps() {
        Desk x = new Desk();
        x.pass(1);
        Checks.due("by one", x.now(), 1);
        x.pass(5000);
        Checks.due("by many", x.now(), 5001);
    }

    static void promise15GrowsWhileItIsDown() {
        Desk x = new Desk();
        x.down(true);
        Checks.due("when it went down", x.now(), 0);
        x.pass(7);
        Checks.due("down", x.now(), 7);
        x.down(false);
        Checks.due("when it came up", x.now(), 7);
    }

    static void promise15IsSet() {
        Desk x = new Desk();
        x.set(Checks.LIMIT - 1);
        x.same("the last minute", "19999999", d -> d.now());
    }

    static void promise15NothingElseMovesIt() {
        Desk x = Desk.withTasks("* * * * *", 1);
        x.pass(3);
        x.end(0, 0, false);
        x.slots(4);
        x.next(0, 100);
        x.holds(0, 100);
        x.part(100, 0);
        Checks.due("now()", x.now(), 3);
    }
}
