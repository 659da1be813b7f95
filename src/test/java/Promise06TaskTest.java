/** Promise 6: task. */
public final class Promise06TaskTest {
    public static void main(String[] args) {
        Checks.run(Promise06TaskTest.class);
    }

    static void promise6SixTasksAreNumberedFrom0() {
        Desk x = Desk.withJob("* * * * *");
        x.job("0 * * * *", 0);
        for (int task = 0; task < 6; task++) {
            Checks.due("number", x.task(0, 0, 1, 0), task);
            Checks.due("count(0, 3)", x.count(0, 3), task + 1);
            Checks.due("it is idle", x.state(0, task), 0);
            Checks.due("none behind it", x.state(0, task + 1), Checks.NONE);
        }
        Checks.due("the other job's first task", x.task(1, 0, 1, 0), 0);
        Checks.due("its tasks", x.count(1, 3), 1);
        Checks.due("no entries", x.entries(), 0);
    }

    static void promise6ASeventhIsUnsupported() {
        Desk x = Desk.withTasks("* * * * *", 6);
        x.unsupported("a seventh", d -> d.task(0, 0, 1, 0));
        Desk y = Desk.withTasks("* * * * *", 5);
        Checks.due("the sixth", y.task(0, 31, 4, 1000), 5);
    }

    static void promise6ARunUnderWayIsUnsupported() {
        Desk x = Desk.withJob("1 0 1 1 *");
        x.task(0, 0, 2, 5);
        x.task(0, 1, 1, 0);
        x.pass(1);
        x.unsupported("while one runs", d -> d.task(0, 0, 1, 0));
        x.end(0, 0, false);
        x.unsupported("while one pauses", d -> d.task(0, 0, 1, 0));
        x.pass(5);
        x.end(0, 0, true);
        x.unsupported("while one waits", d -> d.task(0, 0, 1, 0));
        x.down(true);
        x.unsupported("while it is down", d -> d.task(0, 0, 1, 0));
        x.down(false);
        x.end(0, 1, true);
        Checks.due("when the run is over", x.task(0, 3, 1, 0), 2);
        Checks.due("states stay, the new one is idle", x.states(0), "440");
    }

    static void promise6NoRunUnderWayIsAllowed() {
        Desk x = Desk.withJob("* * * * *");
        x.pass(3);
        Checks.due("when runs without tasks began", x.task(0, 0, 1, 0), 0);
        x.job("0 * * * *", 0);
        x.pass(1);
        Checks.due("when another job's run is under way", x.task(1, 0, 1, 0), 0);
        x.down(true);
        Checks.due("when it is down", x.task(1, 1, 1, 0), 1);
    }

    static void promise6NoSuchJob() {
        Desk x = Desk.withJob("* * * * *");
        for (int job : new int[] {-1, 1, 5, 6, Checks.LEAST, Checks.MOST}) {
            x.index("task(" + job + ", 0, 1, 0)", d -> d.task(job, 0, 1, 0));
        }
        Desk six = Desk.withSixJobs("* * * * *");
        Checks.due("of the last job", six.task(5, 0, 1, 0), 0);
        six.index("task(6, 0, 1, 0)", d -> d.task(6, 0, 1, 0));
        six.index("task(-1, 0, 1, 0)", d -> d.task(-1, 0, 1, 0));
    }

    static void promise6NeedsAreItsTasks() {
        for (int tasks = 0; tasks < 6; tasks++) {
            int all = (1 << tasks) - 1;
            for (int needs = 0; needs <= all; needs++) {
                Desk x = Desk.withTasks("* * * * *", tasks);
                Checks.due("needs " + needs + " of " + tasks, x.task(0, needs, 1, 0), tasks);
            }
        }
    }

    static void promise6NeedsOfOtherThanItsTasks() {
        for (int tasks = 0; tasks < 6; tasks++) {
            Desk x = Desk.withTasks("* * * * *", tasks);
            for (int bit = tasks; bit < 32; bit += bit < 7 ? 1 : 8) {
                int needs = 1 << bit;
                x.argument("needs " + needs + " of " + tasks, d -> d.task(0, needs, 1, 0));
            }
            x.argument("needs all of " + tasks, d -> d.task(0, -1, 1, 0));
            int more = (2 << tasks) - 1;
            x.argument("needs itself too, of " + tasks, d -> d.task(0, more, 1, 0));
        }
    }

    static void promise6NeedsOfAnotherJobsTask() {
        Desk x = Desk.withTasks("* * * * *", 3);
        x.job("* * * * *", 0);
        x.argument("needs 1 of the other job", d -> d.task(1, 1, 1, 0));
    }

    static void promise6TriesFrom1To4() {
        for (int tries = 1; tries <= 4; tries++) {
            Desk x = Desk.withJob("1 0 1 1 *");
            Checks.due("tries " + tries, x.task(0, 0, tries, 0), 0);
            for (int tried = 1; tried <= tries; tried++) {
                x.pass(1);
                Checks.due("try " + tried + " of " + tries, x.end(0, 0, false), tried < tries ? 2 : 5);
            }
        }
    }

    static void promise6TriesBelow1OrAbove4() {
        Desk x = Desk.withTasks("* * * * *", 1);
        for (int tries : new int[] {0, 5, -1, Checks.LEAST, Checks.MOST}) {
            x.argument("tries " + tries, d -> d.task(0, 0, tries, 0));
        }
    }

    static void promise6PauseFrom0To1000() {
        for (int pause : new int[] {0, 1, 999, 1000}) {
            Desk x = Desk.withJob("1 0 1 1 *");
            Checks.due("pause " + pause, x.task(0, 0, 2, pause), 0);
            x.pass(1);
            x.end(0, 0, false);
            x.pass(Math.max(1, pause));
            Checks.due("the minute at which it runs again", x.entry(0, 1), 1 + Math.max(1, pause));
            Checks.due("it runs", x.state(0, 0), 3);
        }
    }

    static void promise6PauseBelow0OrAbove1000() {
        Desk x = Desk.withTasks("* * * * *", 1);
        for (int pause : new int[] {-1, 1001, Checks.LEAST, Checks.MOST}) {
            x.argument("pause " + pause, d -> d.task(0, 0, 1, pause));
        }
    }

    static void promise6NoSuchJobIsNamedFirst() {
        Desk x = Desk.withJob("* * * * *");
        x.index("task(1, 0, 0, 0)", d -> d.task(1, 0, 0, 0));
        x.index("task(-1, 1, 5, 1001)", d -> d.task(-1, 1, 5, 1001));
        x.tasks(0, 6);
        x.pass(1);
        x.index("task(1, 64, 1, 0)", d -> d.task(1, 64, 1, 0));
    }

    static void promise6UnsupportedIsNamedSecond() {
        Desk x = Desk.withTasks("1 0 1 1 *", 6);
        x.unsupported("a seventh, no tries", d -> d.task(0, 0, 0, 0));
        x.unsupported("a seventh, other needs", d -> d.task(0, 64, 1, 0));
        x.unsupported("a seventh, pause 1001", d -> d.task(0, 0, 1, 1001));
        Desk y = Desk.withTasks("1 0 1 1 *", 1);
        y.pass(1);
        y.unsupported("under way, no tries", d -> d.task(0, 0, 0, 0));
        y.unsupported("under way, other needs", d -> d.task(0, 2, 1, 0));
        y.unsupported("under way, pause -1", d -> d.task(0, 0, 1, -1));
    }

    static void promise6RefusedTakesNoNumber() {
        Desk x = Desk.withTasks("* * * * *", 2);
        x.argument("needs 4", d -> d.task(0, 4, 1, 0));
        Checks.due("the next that is taken", x.task(0, 3, 4, 1000), 2);
        x.argument("needs 8", d -> d.task(0, 8, 1, 0));
        Checks.due("the next that may be needed", x.task(0, 4, 1, 0), 3);
    }
}
