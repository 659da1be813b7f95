/** Promises 6 (task), 7 (slots), 11 (pass), 12 (set), 13 (end), 14 (down) and 15 (now). */
public final class DeskTest {
    private static final int LIMIT = 20000000;

    public static void main(String[] args) {
        tasksAreNumbered();
        taskRefuses();
        taskRefusesWhatIsNamedFirst();
        slotsBoundTheRunning();
        slotsStartNothingAndStopNothing();
        slotsRefuse();
        ranksThenJobsThenTasks();
        ranksMayBeAnyInt();
        needsAreWaitedFor();
        passCountsWhatIsStarted();
        passRefuses();
        setPassesOverAll();
        setRefuses();
        endsWell();
        endsBadlyAndTriesAgain();
        pausesGrowTwofold();
        triesAreOfOneRun();
        failureLeavesOut();
        endRefuses();
        downTimePasses();
        upEndsWhatRan();
        upFiresOnce();
        upFiresBehindTheFallUpToNow();
        downRefuses();
        Checks.close();
    }

    private static TimedRuns everyMinute() {
        return Checks.withJob("* * * * *");
    }

    private static void tasksAreNumbered() {
        TimedRuns x = everyMinute();
        Checks.job(x, "0 * * * *", 0);
        for (int task = 0; task < 6; task++) {
            Checks.due("task number", x.task(0, (1 << task) - 1, 1 + task % 4, task * 200), task);
            Checks.due("count(0, 3)", x.count(0, 3), task + 1);
            Checks.due("state of a new task", x.state(0, task), 0);
        }
        Checks.due("the other job's first task", x.task(1, 0, 4, 1000), 0);
        Checks.due("a task makes no entry", x.entries(), 0);
    }

    private static void taskRefuses() {
        TimedRuns x = everyMinute();
        x.task(0, 0, 1, 0);
        x.task(0, 0, 1, 0);
        int[][] refused = {{4, 1, 0}, {7, 1, 0}, {-1, 1, 0}, {-4, 1, 0}, {1 << 31, 1, 0}, {64, 1, 0},
            {0, 0, 0}, {0, 5, 0}, {0, -1, 0}, {0, Integer.MIN_VALUE, 0}, {0, Integer.MAX_VALUE, 0},
            {0, 1, -1}, {0, 1, 1001}, {0, 1, Integer.MIN_VALUE}, {0, 1, Integer.MAX_VALUE}};
        for (int[] r : refused) {
            Checks.thrown("task(0, " + r[0] + ", " + r[1] + ", " + r[2] + ")", x, Checks.ARGUMENT,
                () -> x.task(0, r[0], r[1], r[2]));
        }
        for (int job : new int[] {-1, 1, 6, Integer.MIN_VALUE, Integer.MAX_VALUE}) {
            Checks.thrown("task(" + job + ")", x, Checks.INDEX, () -> x.task(job, 0, 1, 0));
        }
        Checks.due("the next that is taken", x.task(0, 3, 4, 1000), 2);
    }

    private static void taskRefusesWhatIsNamedFirst() {
        TimedRuns x = everyMinute();
        Checks.thrown("no job, no tries", x, Checks.INDEX, () -> x.task(1, 0, 0, 0));
        for (int task = 0; task < 6; task++) {
            x.task(0, 0, 1, 0);
        }
        Checks.thrown("a seventh task", x, Checks.UNSUPPORTED, () -> x.task(0, 0, 1, 0));
        Checks.thrown("a seventh task, no tries", x, Checks.UNSUPPORTED, () -> x.task(0, 0, 0, 0));
        Checks.thrown("a seventh task, other needs", x, Checks.UNSUPPORTED, () -> x.task(0, 64, 1, 0));

        TimedRuns y = everyMinute();
        y.task(0, 0, 1, 0);
        y.pass(1);
        Checks.thrown("a task under way", y, Checks.UNSUPPORTED, () -> y.task(0, 0, 1, 0));
        Checks.thrown("a task under way, no tries", y, Checks.UNSUPPORTED, () -> y.task(0, 0, 0, 0));
        y.end(0, 0, true);
        Checks.due("a task when the run is over", y.task(0, 1, 1, 0), 1);
        Checks.due("its state", y.state(0, 1), 0);
        Checks.due("the other's state stays", y.state(0, 0), 4);
    }

    private static void slotsBoundTheRunning() {
        for (int n = 1; n <= 6; n++) {
            TimedRuns x = everyMinute();
            for (int task = 0; task < 6; task++) {
                x.task(0, 0, 1, 0);
            }
            Checks.due("slots(" + n + ")", x.slots(n), true);
            Checks.due("started in " + n, x.pass(1), n);
            Checks.due("running in " + n, x.count(0, 4), n);
            Checks.due("started again in " + n, x.pass(5), 0);
        }
    }

    private static void slotsStartNothingAndStopNothing() {
        TimedRuns x = everyMinute();
        for (int task = 0; task < 6; task++) {
            x.task(0, 0, 1, 0);
        }
        x.slots(4);
        x.pass(1);
        x.slots(2);
        Checks.due("more run than there are slots", x.count(0, 4), 4);
        Checks.due("none is started then", x.pass(1), 0);
        x.end(0, 0, true);
        x.end(0, 1, true);
        Checks.due("nor with as many as slots", x.pass(1), 0);
        x.end(0, 2, true);
        Checks.due("but with one less", x.pass(1), 1);
        x.slots(6);
        Checks.due("slots start nothing", x.count(0, 4), 2);
        Checks.due("the step does", x.pass(1), 1);
        Checks.due("all run that are left", x.count(0, 4), 3);
    }

    private static void slotsRefuse() {
        TimedRuns x = everyMinute();
        for (int task = 0; task < 6; task++) {
            x.task(0, 0, 1, 0);
        }
        for (int n : new int[] {0, 7, -1, Integer.MIN_VALUE, Integer.MAX_VALUE}) {
            Checks.due("slots(" + n + ")", x.slots(n), false);
        }
        Checks.due("there are two as before", x.pass(1), 2);
    }

    private static void ranksThenJobsThenTasks() {
        TimedRuns x = new TimedRuns();
        int[] ranks = {1, 5, 5, -3};
        for (int rank : ranks) {
            int job = Checks.job(x, "5 * * * *", rank);
            x.task(job, 0, 1, 0);
            x.task(job, 0, 1, 0);
        }
        x.slots(6);
        Checks.due("started", x.pass(5), 6);
        Checks.due("in this order", Checks.log(x, 6), "3@5:1.0 3@5:1.1 3@5:2.0 3@5:2.1 3@5:0.0 3@5:0.1");
        x.end(2, 1, true);
        Checks.due("started", x.pass(1), 1);
        Checks.due("the last rank", Checks.log(x, 1), "3@6:3.0");
    }

    private static void ranksMayBeAnyInt() {
        TimedRuns x = new TimedRuns();
        int[] ranks = {Integer.MIN_VALUE, -1, Integer.MAX_VALUE, 0};
        for (int rank : ranks) {
            x.task(Checks.job(x, "* * * * *", rank), 0, 1, 0);
        }
        x.slots(4);
        x.pass(1);
        Checks.due("in this order", Checks.log(x, 4), "3@1:2.0 3@1:3.0 3@1:1.0 3@1:0.0");
    }

    private static void needsAreWaitedFor() {
        TimedRuns x = Checks.withJob("1 0 1 1 *");
        x.task(0, 0, 1, 0);
        x.task(0, 0, 1, 0);
        x.task(0, 3, 1, 0);
        x.task(0, 4, 1, 0);
        x.slots(6);
        Checks.due("two need nothing", x.pass(1), 2);
        x.end(0, 0, true);
        Checks.due("one of two is not enough", x.pass(1), 0);
        x.end(0, 1, true);
        Checks.due("waiting until the step", x.state(0, 2), 1);
        Checks.due("both are", x.pass(1), 1);
        Checks.due("the last waits", x.state(0, 3), 1);
        x.end(0, 2, true);
        Checks.due("the last", x.pass(1), 1);
        x.end(0, 3, true);
        Checks.due("the run is over", x.count(0, 2), 0);
        Checks.due("all done", x.state(0, 0) + x.state(0, 1) + x.state(0, 2) + x.state(0, 3), 16);
    }

    private static void passCountsWhatIsStarted() {
        TimedRuns x = Checks.withJob("*/10 * * * *");
        x.task(0, 0, 1, 0);
        Checks.due("none fired at 0", x.count(0, 0), 0);
        Checks.due("nine steps", x.pass(9), 0);
        Checks.due("now", x.now(), 9);
        Checks.due("the tenth", x.pass(1), 1);
        Checks.due("begun", x.count(0, 0), 1);
        Checks.due("thirty more", x.pass(30), 0);
        Checks.due("missed", x.count(0, 1), 3);
        Checks.due("begun still", x.count(0, 0), 1);
        Checks.due("now", x.now(), 40);
        Checks.due("5000 steps", x.pass(5000), 0);
        Checks.due("now", x.now(), 5040);

        TimedRuns y = everyMinute();
        y.task(0, 0, 4, 0);
        y.task(0, 0, 1, 0);
        y.task(0, 0, 1, 0);
        Checks.due("started in many steps", y.pass(7), 2);
        y.end(0, 0, false);
        y.end(0, 1, true);
        Checks.due("started in many more", y.pass(7), 2);
    }

    private static void passRefuses() {
        TimedRuns x = everyMinute();
        x.task(0, 0, 1, 0);
        for (int n : new int[] {0, 5001, -1, Integer.MIN_VALUE, Integer.MAX_VALUE}) {
            Checks.thrown("pass(" + n + ")", x, Checks.ARGUMENT, () -> x.pass(n));
        }
        x.set(LIMIT - 10);
        Checks.thrown("pass to the limit", x, Checks.STATE, () -> x.pass(10));
        Checks.thrown("pass beyond it", x, Checks.STATE, () -> x.pass(5000));
        Checks.thrown("pass of too many there", x, Checks.ARGUMENT, () -> x.pass(5001));
        Checks.due("pass below it", x.pass(9), 1);
        Checks.due("now", x.now(), LIMIT - 1);
        Checks.thrown("pass at the last", x, Checks.STATE, () -> x.pass(1));
        x.down(true);
        Checks.thrown("pass at the last, down", x, Checks.STATE, () -> x.pass(1));
        Checks.thrown("pass(0), down", x, Checks.ARGUMENT, () -> x.pass(0));
        Checks.due("up at the last", x.down(false), 0);
    }

    private static void setPassesOverAll() {
        TimedRuns x = everyMinute();
        x.task(0, 0, 1, 0);
        x.set(1000);
        Checks.due("now", x.now(), 1000);
        Checks.due("nothing has happened", x.entries(), 0);
        Checks.due("no run", x.count(0, 0), 0);
        x.set(1000);
        Checks.due("now again", x.now(), 1000);
        Checks.due("the step behind", x.pass(1), 1);
        Checks.due("its entries", Checks.log(x, 64), "1@1001:0 3@1001:0.0");
        x.end(0, 0, true);
        x.set(LIMIT - 1);
        Checks.due("now at the last", x.now(), LIMIT - 1);
    }

    private static void setRefuses() {
        TimedRuns x = everyMinute();
        x.set(500);
        for (int minute : new int[] {499, 0, -1, LIMIT, Integer.MIN_VALUE, Integer.MAX_VALUE}) {
            Checks.thrown("set(" + minute + ")", x, Checks.ARGUMENT, () -> x.set(minute));
        }
        x.down(true);
        Checks.thrown("set, down", x, Checks.STATE, () -> x.set(600));
        Checks.thrown("set backward, down", x, Checks.STATE, () -> x.set(1));
        x.down(false);
        Checks.job(x, "* * * * *", 0);
        x.task(1, 0, 2, 50);
        x.pass(1);
        Checks.thrown("set, a run under way", x, Checks.STATE, () -> x.set(600));
        Checks.thrown("set backward, a run under way", x, Checks.STATE, () -> x.set(1));
        x.end(1, 0, false);
        Checks.thrown("set, a task pausing", x, Checks.STATE, () -> x.set(600));
        x.pass(50);
        x.end(1, 0, false);
        x.set(600);
        Checks.due("set when the run is over", x.now(), 600);

        for (int job = 0; job < 6; job++) {
            TimedRuns y = new TimedRuns();
            for (int other = 0; other < 6; other++) {
                Checks.job(y, "* * * * *", 0);
            }
            y.task(job, 0, 1, 0);
            y.pass(1);
            Checks.thrown("set, job " + job + " alone under way", y, Checks.STATE, () -> y.set(600));
        }
    }

    private static void endsWell() {
        TimedRuns x = Checks.withJob("1 0 1 1 *");
        x.task(0, 0, 1, 0);
        x.task(0, 0, 1, 0);
        x.pass(1);
        x.pass(4);
        Checks.due("end", x.end(0, 1, true), 4);
        Checks.due("state", x.state(0, 1), 4);
        Checks.due("under way", x.count(0, 2), 1);
        Checks.due("entry", Checks.log(x, 1), "4@5:0.1");
        Checks.due("end", x.end(0, 0, true), 4);
        Checks.due("over", x.count(0, 2), 0);
        Checks.due("entries", Checks.log(x, 2), "4@5:0.0 8@5:0");
    }

    private static void endsBadlyAndTriesAgain() {
        TimedRuns x = Checks.withJob("1 0 1 1 *");
        x.task(0, 0, 2, 3);
        x.pass(1);
        Checks.due("end badly", x.end(0, 0, false), 2);
        Checks.due("entry", Checks.log(x, 1), "5@1:0.0");
        Checks.due("under way", x.count(0, 2), 1);
        Checks.due("running", x.count(0, 4), 0);
        Checks.due("two minutes", x.pass(2), 0);
        Checks.due("pausing", x.state(0, 0), 2);
        Checks.due("the third", x.pass(1), 1);
        Checks.due("end badly", x.end(0, 0, false), 5);
        Checks.due("entries", Checks.log(x, 2), "6@4:0.0 8@4:0");

        TimedRuns y = Checks.withJob("1 0 1 1 *");
        y.task(0, 0, 2, 0);
        y.pass(1);
        Checks.due("a pause of none", y.end(0, 0, false), 2);
        Checks.due("starts in the next step", y.pass(1), 1);
        Checks.due("well then", y.end(0, 0, true), 4);

        TimedRuns z = Checks.withJob("1 0 1 1 *");
        z.task(0, 0, 1, 3);
        z.pass(1);
        Checks.due("one try alone", z.end(0, 0, false), 5);
    }

    private static void pausesGrowTwofold() {
        TimedRuns x = Checks.withJob("1 0 1 1 *");
        x.task(0, 0, 4, 1000);
        x.pass(1);
        for (int pause = 1000; pause <= 4000; pause *= 2) {
            Checks.due("end badly", x.end(0, 0, false), 2);
            Checks.due("one less than " + pause, x.pass(pause - 1), 0);
            Checks.due("and one", x.pass(1), 1);
        }
        Checks.due("the fourth", x.end(0, 0, false), 5);
        Checks.due("all entries", Checks.log(x, 64),
            "1@1:0 3@1:0.0 5@1:0.0 3@1001:0.0 5@1001:0.0 3@3001:0.0 5@3001:0.0 3@7001:0.0 6@7001:0.0 8@7001:0");
    }

    private static void triesAreOfOneRun() {
        TimedRuns x = everyMinute();
        x.task(0, 0, 2, 0);
        for (int run = 0; run < 3; run++) {
            x.pass(1);
            Checks.due("the first try", x.end(0, 0, false), 2);
            x.pass(1);
            Checks.due("the second", x.end(0, 0, false), 5);
        }
        Checks.due("runs", x.count(0, 0), 3);
        Checks.due("missed", x.count(0, 1), 3);
    }

    private static void failureLeavesOut() {
        TimedRuns x = Checks.withJob("1 0 1 1 *");
        x.task(0, 0, 1, 0);
        x.task(0, 0, 1, 0);
        x.task(0, 1, 1, 0);
        x.task(0, 2, 1, 0);
        x.task(0, 4, 1, 0);
        x.task(0, 1 | 2, 1, 0);
        x.pass(1);
        Checks.due("fails", x.end(0, 0, false), 5);
        Checks.due("entries", Checks.log(x, 4), "6@1:0.0 7@1:0.2 7@1:0.4 7@1:0.5");
        Checks.due("one needs the other", x.state(0, 3), 1);
        Checks.due("under way", x.count(0, 2), 1);
        x.pass(1);
        Checks.due("the other fails too", x.end(0, 1, false), 5);
        Checks.due("what was left out is not so again", Checks.log(x, 4), "7@1:0.5 6@2:0.1 7@2:0.3 8@2:0");
        for (int task = 2; task < 6; task++) {
            Checks.due("state", x.state(0, task), 6);
        }
        Checks.due("over", x.count(0, 2), 0);
    }

    private static void endRefuses() {
        TimedRuns x = Checks.withJob("1 0 1 1 *");
        x.task(0, 0, 2, 5);
        x.task(0, 1, 1, 0);
        Checks.thrown("end of an idle one", x, Checks.STATE, () -> x.end(0, 0, true));
        x.pass(1);
        Checks.thrown("end of a waiting one", x, Checks.STATE, () -> x.end(0, 1, false));
        for (int other : new int[] {-1, 2, 6, Integer.MIN_VALUE, Integer.MAX_VALUE}) {
            Checks.thrown("end(" + other + ", 0)", x, Checks.INDEX, () -> x.end(other, 0, true));
            Checks.thrown("end(0, " + other + ")", x, Checks.INDEX, () -> x.end(0, other, true));
        }
        Checks.thrown("end(1, 0)", x, Checks.INDEX, () -> x.end(1, 0, true));
        x.down(true);
        Checks.thrown("end, down", x, Checks.STATE, () -> x.end(0, 0, true));
        Checks.thrown("end of none, down", x, Checks.INDEX, () -> x.end(0, 2, true));
        x.down(false);
        Checks.thrown("end of a pausing one", x, Checks.STATE, () -> x.end(0, 0, true));
        x.pass(5);
        x.end(0, 0, false);
        Checks.thrown("end of a failed one", x, Checks.STATE, () -> x.end(0, 0, true));
        Checks.thrown("end of one left out", x, Checks.STATE, () -> x.end(0, 1, true));

        TimedRuns y = everyMinute();
        y.task(0, 0, 1, 0);
        y.pass(1);
        y.end(0, 0, true);
        Checks.thrown("end of a done one", y, Checks.STATE, () -> y.end(0, 0, true));
    }

    private static void downTimePasses() {
        TimedRuns x = everyMinute();
        x.task(0, 0, 1, 0);
        Checks.due("down", x.down(true), 0);
        Checks.due("pass, down", x.pass(5000), 0);
        Checks.due("pass, down", x.pass(1), 0);
        Checks.due("now", x.now(), 5001);
        Checks.due("no entries", x.entries(), 0);
        Checks.due("no runs", x.count(0, 0), 0);
        // Jobs, tasks and slots can be made all the same.
        Checks.due("a task, down", x.task(0, 1, 1, 0), 1);
        Checks.due("slots, down", x.slots(1), true);
        Checks.due("a job, down", Checks.job(x, "0 * * * *", 9), 1);
        Checks.due("its task", x.task(1, 0, 1, 0), 0);
        Checks.due("up", x.down(false), 1);
        Checks.due("entries", Checks.log(x, 64), "1@5001:0 1@5001:1 3@5001:1.0");
        Checks.due("now", x.now(), 5001);
    }

    private static void upEndsWhatRan() {
        TimedRuns x = Checks.withJob("1 0 1 1 *");
        Checks.job(x, "1 0 1 1 *", 5);
        x.task(0, 0, 2, 10);
        x.task(0, 0, 1, 0);
        x.task(0, 2, 1, 0);
        x.task(1, 0, 2, 0);
        x.task(1, 0, 1, 0);
        x.slots(4);
        x.pass(1);
        Checks.due("down", x.down(true), 0);
        Checks.due("still running", x.count(0, 4), 4);
        Checks.due("its state", x.state(1, 0), 3);
        x.pass(20);
        Checks.due("up", x.down(false), 1);
        Checks.due("entries", Checks.log(x, 6), "5@21:0.0 6@21:0.1 7@21:0.2 5@21:1.0 6@21:1.1 3@21:1.0");
        Checks.due("pausing from now on", x.pass(9), 0);
        Checks.due("until then", x.pass(1), 1);
        Checks.due("down", x.down(true), 0);
        Checks.due("up in the same minute", x.down(false), 0);
        Checks.due("entries", Checks.log(x, 4), "6@31:0.0 8@31:0 6@31:1.0 8@31:1");
    }

    private static void upFiresOnce() {
        TimedRuns x = Checks.withJob("*/10 * * * *");
        Checks.job(x, "5 * * * *", 0);
        Checks.job(x, "30 * * * *", 0);
        x.task(0, 0, 1, 0);
        x.task(1, 0, 2, 0);
        x.pass(5);
        x.down(true);
        x.pass(24);
        x.pass(41);
        Checks.due("up", x.down(false), 2);
        Checks.due("entries", Checks.log(x, 64),
            "1@5:1 3@5:1.0 5@70:1.0 1@70:0 2@70:1 1@70:2 8@70:2 3@70:0.0 3@70:1.0");
        Checks.due("begun", x.count(0, 0), 1);
        Checks.due("missed", x.count(1, 1), 1);
        Checks.due("begun", x.count(2, 0), 1);
    }

    private static void upFiresBehindTheFallUpToNow() {
        for (int fall = 8; fall <= 12; fall++) {
            for (int length = 0; length <= 4; length++) {
                TimedRuns x = Checks.withJob("10 * * * *");
                x.set(fall);
                x.down(true);
                if (length > 0) {
                    x.pass(length);
                }
                boolean held = fall < 10 && fall + length >= 10;
                x.down(false);
                Checks.due("down from " + fall + " for " + length, x.count(0, 0), held ? 1 : 0);
            }
        }
        // A run that ends by coming up is no more under way when the job is fired.
        TimedRuns y = everyMinute();
        y.task(0, 0, 1, 0);
        y.pass(1);
        y.down(true);
        y.pass(3);
        Checks.due("up", y.down(false), 1);
        Checks.due("entries", Checks.log(y, 64), "1@1:0 3@1:0.0 6@4:0.0 8@4:0 1@4:0 3@4:0.0");
        // What waited for a slot starts though nothing is fired.
        TimedRuns z = Checks.withJob("1 0 1 1 *");
        z.task(0, 0, 1, 0);
        z.task(0, 0, 1, 0);
        z.slots(1);
        z.pass(1);
        z.down(true);
        Checks.due("up at once", z.down(false), 1);
        Checks.due("entries", Checks.log(z, 2), "6@1:0.0 3@1:0.1");
    }

    private static void downRefuses() {
        TimedRuns x = everyMinute();
        x.task(0, 0, 1, 0);
        x.pass(1);
        Checks.thrown("up when up", x, Checks.STATE, () -> x.down(false));
        x.down(true);
        x.pass(2);
        Checks.thrown("down when down", x, Checks.STATE, () -> x.down(true));
        x.pass(2);
        x.down(false);
        Checks.thrown("up when up", x, Checks.STATE, () -> x.down(false));
        Checks.due("entries", Checks.log(x, 4), "6@5:0.0 8@5:0 1@5:0 3@5:0.0");
    }
}
