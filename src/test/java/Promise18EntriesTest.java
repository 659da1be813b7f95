/** Promise 18: entries. */
public final class Promise18EntriesTest {
    public static void main(String[] args) {
        Checks.run(Promise18EntriesTest.class);
    }

    static void promise18NoneAtFirst() {
        Desk x = Desk.withTasks("0 * * * *", 1);
        Checks.due("entries()", x.entries(), 0);
        x.pass(59);
        Checks.due("when nothing was fired", x.entries(), 0);
    }

    static void promise18EachKindIsCounted() {
        Desk x = Desk.withJob("*/5 * * * *");
        x.task(0, 0, 2, 0);
        x.task(0, 1, 1, 0);
        x.pass(5);
        Checks.due("begun and running", x.entries(), 2);
        x.pass(5);
        Checks.due("missed", x.entries(), 3);
        x.end(0, 0, false);
        Checks.due("pausing", x.entries(), 4);
        x.pass(1);
        Checks.due("running again", x.entries(), 5);
        x.end(0, 0, true);
        Checks.due("done", x.entries(), 6);
        x.pass(1);
        x.end(0, 1, false);
        Checks.due("running, failed and over", x.entries(), 9);
        x.pass(3);
        x.end(0, 0, false);
        x.pass(1);
        x.end(0, 0, false);
        Checks.due("begun, running, pausing, running, failed, left out and over", x.entries(), 16);
    }

    static void promise18AllThatEverCame() {
        Desk x = Desk.withJob("* * * * *");
        int[] steps = {31, 1, 1, 31, 1, 935, 4000};
        int now = 0;
        for (int n : steps) {
            x.pass(n);
            now += n;
            Checks.due("entries() at " + now, x.entries(), 2 * now);
        }
    }

    static void promise18OddNumbersOver64() {
        // One entry a step, behind the two of the first.
        Desk x = Desk.withTasks("* * * * *", 1);
        x.pass(62);
        Checks.due("63", x.entries(), 63);
        x.pass(1);
        Checks.due("64", x.entries(), 64);
        x.pass(1);
        Checks.due("65", x.entries(), 65);
    }

    static void promise18NothingButWhatTheLogNames() {
        Desk x = Desk.withTasks("1 0 1 1 *", 1);
        x.type("x");
        x.slots(3);
        x.set(5);
        x.pass(100);
        x.down(true);
        x.pass(100);
        x.down(false);
        x.same("entries()", "0", d -> d.entries());
    }
}
