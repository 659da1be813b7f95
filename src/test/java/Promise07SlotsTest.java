/** Promise 7: slots. */
public final class Promise07SlotsTest {
    public static void main(String[] args) {
        Checks.run(Promise07SlotsTest.class);
    }

    static void promise7From1To6() {
        for (int n = 1; n <= 6; n++) {
            Desk x = new Desk();
            for (int job = 0; job < 2; job++) {
                x.job("* * * * *", 0);
                x.tasks(job, 6);
            }
            Checks.due("slots(" + n + ")", x.slots(n), true);
            Checks.due("started in " + n, x.pass(1), n);
            Checks.due("running in " + n, x.count(0, 4), n);
            Checks.due("started again in " + n, x.pass(5), 0);
        }
    }

    static void promise7Below1OrAbove6() {
        for (int n : new int[] {0, 7, -1, Checks.LEAST, Checks.MOST}) {
            Desk x = Desk.withTasks("* * * * *", 6);
            x.same("slots(" + n + ")", "0", d -> d.slots(n) ? 1 : 0);
            Checks.due("there are two as before", x.pass(1), 2);
        }
    }

    static void promise7RefusedLeavesTheOnesSet() {
        Desk x = Desk.withTasks("* * * * *", 6);
        x.slots(5);
        x.same("slots(7)", "0", d -> d.slots(7) ? 1 : 0);
        x.same("slots(0)", "0", d -> d.slots(0) ? 1 : 0);
        Checks.due("five as before", x.pass(1), 5);
    }

    static void promise7NothingIsStartedByIt() {
        Desk x = Desk.withTasks("1 0 1 1 *", 6);
        x.pass(1);
        Checks.due("slots(6)", x.slots(6), true);
        Checks.due("running", x.count(0, 4), 2);
        Checks.due("entries", x.entries(), 3);
        Checks.due("the step starts", x.pass(1), 4);
    }

    static void promise7WhatIsRunningGoesOn() {
        Desk x = Desk.withTasks("1 0 1 1 *", 6);
        x.slots(4);
        x.pass(1);
        Checks.due("slots(1)", x.slots(1), true);
        Checks.due("states", x.states(0), "333311");
        Checks.due("more run than there are", x.count(0, 4), 4);
        Checks.due("end", x.end(0, 3, true), 4);
    }

    static void promise7NoneStartsWhileMoreRunThanThereAre() {
        Desk x = Desk.withTasks("1 0 1 1 *", 6);
        x.slots(4);
        x.pass(1);
        x.slots(2);
        Checks.due("with four", x.pass(1), 0);
        x.end(0, 0, true);
        Checks.due("with three", x.pass(1), 0);
        x.end(0, 1, true);
        Checks.due("with as many as slots", x.pass(1), 0);
        x.end(0, 2, true);
        Checks.due("with one less", x.pass(1), 1);
        Checks.due("states", x.states(0), "444331");
    }

    static void promise7WhileTheDeskIsDown() {
        Desk x = Desk.withTasks("1 0 1 1 *", 6);
        x.down(true);
        x.pass(1);
        Checks.due("slots(3)", x.slots(3), true);
        Checks.due("up", x.down(false), 3);
    }
}
