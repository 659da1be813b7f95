/** Promises 16 (state), 17 (count), 18 (entries) and 19 (entry). */
public final class LogTest {
    public static void main(String[] args) {
        statesOfARun();
        statesStayUntilTheNextRun();
        stateOfNone();
        countsOfAJob();
        countOfNone();
        entriesInTheirOrder();
        entriesOfAJobWithoutTasks();
        entryCountsBack();
        entryRefuses();
        Checks.close();
    }

    private static String states(TimedRuns x, int job) {
        StringBuilder all = new StringBuilder();
        for (int task = 0; task < x.count(job, 3); task++) {
            all.append(x.state(job, task));
        }
        return all.toString();
    }

    private static TimedRuns aChain() {
        TimedRuns x = Checks.withJob("*/5 * * * *");
        x.task(0, 0, 2, 1);
        x.task(0, 1, 1, 0);
        x.task(0, 2, 1, 0);
        return x;
    }

    private static void statesOfARun() {
        TimedRuns x = aChain();
        Checks.due("idle", states(x, 0), "000");
        x.pass(4);
        Checks.due("idle still", states(x, 0), "000");
        x.pass(1);
        Checks.due("running", states(x, 0), "311");
        x.end(0, 0, false);
        Checks.due("pausing", states(x, 0), "211");
        x.pass(1);
        Checks.due("running", states(x, 0), "311");
        x.end(0, 0, true);
        Checks.due("done", states(x, 0), "411");
        x.pass(1);
        Checks.due("the second", states(x, 0), "431");
        x.end(0, 1, false);
        Checks.due("failed and left out", states(x, 0), "456");
    }

    private static void statesStayUntilTheNextRun() {
        TimedRuns x = aChain();
        x.pass(5);
        x.end(0, 0, true);
        x.pass(1);
        x.end(0, 1, false);
        x.pass(3);
        Checks.due("they stay", states(x, 0), "456");
        x.pass(1);
        Checks.due("all wait but what runs", states(x, 0), "311");
    }

    private static void stateOfNone() {
        TimedRuns x = aChain();
        int[] none = {-1, 6, 7, Integer.MIN_VALUE, Integer.MAX_VALUE};
        for (int n : none) {
            Checks.due("state(" + n + ", 0)", x.state(n, 0), -1);
            Checks.due("state(0, " + n + ")", x.state(0, n), -1);
        }
        Checks.due("state(0, 3)", x.state(0, 3), -1);
        Checks.due("state(1, 0)", x.state(1, 0), -1);
        Checks.due("state(0, 2)", x.state(0, 2), 0);
    }

    private static void counts(TimedRuns x, int job, int begun, int missed, int underWay, int tasks, int running) {
        Checks.due("begun", x.count(job, 0), begun);
        Checks.due("missed", x.count(job, 1), missed);
        Checks.due("under way", x.count(job, 2), underWay);
        Checks.due("tasks", x.count(job, 3), tasks);
        Checks.due("running", x.count(job, 4), running);
    }

    private static void countsOfAJob() {
        TimedRuns x = aChain();
        Checks.job(x, "* * * * *", 1);
        counts(x, 0, 0, 0, 0, 3, 0);
        x.pass(4);
        counts(x, 0, 0, 0, 0, 3, 0);
        counts(x, 1, 4, 0, 0, 0, 0);
        x.pass(1);
        counts(x, 0, 1, 0, 1, 3, 1);
        counts(x, 1, 5, 0, 0, 0, 1);
        x.pass(10);
        counts(x, 0, 1, 2, 1, 3, 1);
        x.end(0, 0, false);
        counts(x, 0, 1, 2, 1, 3, 0);
        x.pass(1);
        x.end(0, 0, false);
        counts(x, 0, 1, 2, 0, 3, 0);
        x.pass(4);
        counts(x, 0, 2, 2, 1, 3, 1);
        counts(x, 1, 20, 0, 0, 0, 1);
    }

    private static void countOfNone() {
        TimedRuns x = aChain();
        x.pass(5);
        int[] none = {-1, 1, 6, Integer.MIN_VALUE, Integer.MAX_VALUE};
        for (int job : none) {
            for (int what = 0; what < 4; what++) {
                Checks.due("count(" + job + ", " + what + ")", x.count(job, what), -1);
            }
            Checks.due("count(" + job + ", 4)", x.count(job, 4), 1);
            Checks.due("count(" + job + ", 5)", x.count(job, 5), -1);
        }
        for (int what : new int[] {-1, 5, Integer.MIN_VALUE, Integer.MAX_VALUE}) {
            Checks.due("count(0, " + what + ")", x.count(0, what), -1);
        }
    }

    private static void entriesInTheirOrder() {
        TimedRuns x = aChain();
        Checks.job(x, "5 * * * *", 9);
        x.task(1, 0, 1, 0);
        x.pass(5);
        Checks.due("jobs, then tasks by rank", Checks.log(x, 64), "1@5:0 1@5:1 3@5:1.0 3@5:0.0");
        x.end(0, 0, false);
        x.end(1, 0, true);
        x.pass(5);
        Checks.due("how many", x.entries(), 9);
        Checks.due("the later ones", Checks.log(x, 5), "5@5:0.0 4@5:1.0 8@5:1 3@6:0.0 2@10:0");
        x.end(0, 0, false);
        Checks.due("how many", x.entries(), 13);
        Checks.due("the last", Checks.log(x, 4), "6@10:0.0 7@10:0.1 7@10:0.2 8@10:0");
    }

    private static void entriesOfAJobWithoutTasks() {
        TimedRuns x = Checks.withJob("* * * * *");
        x.pass(2);
        Checks.due("begun and over", Checks.log(x, 64), "1@1:0 8@1:0 1@2:0 8@2:0");
        Checks.due("task of a begun run", x.entry(1, 3), -1);
        Checks.due("task of a run that is over", x.entry(0, 3), -1);
        Checks.due("under way", x.count(0, 2), 0);
        Checks.due("missed", x.count(0, 1), 0);
    }

    private static void entryCountsBack() {
        TimedRuns x = Checks.withJob("* * * * *");
        x.pass(31);
        Checks.due("entries", x.entries(), 62);
        Checks.due("the first, kind", x.entry(61, 0), 1);
        Checks.due("the first, minute", x.entry(61, 1), 1);
        Checks.thrown("one before it", x, Checks.INDEX, () -> x.entry(62, 0));
        x.pass(1);
        Checks.due("the first, the last that is told", x.entry(63, 1), 1);
        Checks.thrown("entry 64 of 64", x, Checks.INDEX, () -> x.entry(64, 0));
        x.pass(1);
        Checks.due("entries", x.entries(), 66);
        Checks.due("k = 63 of 66", x.entry(63, 1), 2);
        Checks.thrown("k = 64 of 66", x, Checks.INDEX, () -> x.entry(64, 0));
        Checks.thrown("k = 65 of 66", x, Checks.INDEX, () -> x.entry(65, 0));
        x.pass(5000);
        Checks.due("entries of all that came", x.entries(), 10066);
        for (int k = 0; k < 64; k++) {
            Checks.due("kind", x.entry(k, 0), k % 2 == 0 ? 8 : 1);
            Checks.due("minute", x.entry(k, 1), 5033 - k / 2);
            Checks.due("job", x.entry(k, 2), 0);
            Checks.due("task", x.entry(k, 3), -1);
        }
    }

    private static void entryRefuses() {
        TimedRuns x = Checks.withJob("* * * * *");
        x.pass(1);
        for (int k : new int[] {-1, 2, 63, 64, Integer.MIN_VALUE, Integer.MAX_VALUE}) {
            Checks.thrown("entry(" + k + ", 0)", x, Checks.INDEX, () -> x.entry(k, 0));
        }
        for (int part : new int[] {-1, 4, Integer.MIN_VALUE, Integer.MAX_VALUE}) {
            Checks.thrown("entry(0, " + part + ")", x, Checks.INDEX, () -> x.entry(0, part));
        }
    }
}
