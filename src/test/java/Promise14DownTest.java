/** Promise 14: down, and what the terms say of down and up. */
public final class Promise14DownTest {
    public static void main(String[] args) {
        Checks.run(Promise14DownTest.class);
    }

    static void promise14UpWhenItIsUp() {
        Desk x = Desk.withTasks("* * * * *", 1);
        x.state("down(false) at first", d -> d.down(false));
        x.pass(1);
        x.state("down(false) with one running", d -> d.down(false));
        x.down(true);
        x.down(false);
        x.state("down(false) when it came up", d -> d.down(false));
    }

    static void promise14DownWhenItIsDown() {
        Desk x = Desk.withTasks("3 * * * *", 1);
        x.pass(2);
        x.down(true);
        x.state("down(true)", d -> d.down(true));
        x.pass(1);
        x.state("down(true) a minute later", d -> d.down(true));
        Checks.due("the first fall counts", x.down(false), 1);
    }

    static void promise14GoingDownStartsAndEndsNothing() {
        Desk x = Desk.withTasks("1 0 1 1 *", 4);
        x.pass(1);
        x.slots(3);
        x.end(0, 0, true);
        Checks.due("down(true)", x.down(true), 0);
        Checks.due("states", x.states(0), "4311");
        Checks.due("running", x.count(0, 4), 1);
        Checks.due("entries", x.log(), "1@1:0 3@1:0.0 3@1:0.1 4@1:0.0");
        Checks.due("now()", x.now(), 1);
    }

    static void promise14UpInTheSameMinuteFiresNothing() {
        Desk x = Desk.withTasks("* * * * *", 1);
        Checks.due("down", x.down(true), 0);
        Checks.due("up at 0", x.down(false), 0);
        Checks.due("no run", x.count(0, 0), 0);
        x.set(7);
        x.down(true);
        Checks.due("up at 7", x.down(false), 0);
        Checks.due("no run", x.count(0, 0), 0);
    }

    static void promise14BehindTheFallUpToNow() {
        for (int fall = 1437; fall <= 1442; fall++) {
            for (int length = 0; length <= 4; length++) {
                Desk x = Desk.withTasks("0 0 * * *", 1);
                x.set(fall);
                x.down(true);
                if (length > 0) {
                    x.pass(length);
                }
                boolean held = fall < 1440 && fall + length >= 1440;
                Checks.due("down from " + fall + " for " + length, x.down(false), held ? 1 : 0);
                Checks.due("runs", x.count(0, 0), held ? 1 : 0);
            }
        }
    }

    static void promise14AtTheMinuteOfTheFallItIsNotFiredAgain() {
        Desk x = Desk.withTasks("1 * * * *", 1);
        x.pass(1);
        x.end(0, 0, true);
        x.down(true);
        x.pass(59);
        Checks.due("up", x.down(false), 0);
        Checks.due("runs", x.count(0, 0), 1);
    }

    static void promise14AtNowItIsFiredOnceAlone() {
        Desk x = Desk.withTasks("1 * * * *", 1);
        x.down(true);
        x.pass(1);
        Checks.due("up", x.down(false), 1);
        Checks.due("not again in the next step", x.pass(1), 0);
        Checks.due("runs", x.count(0, 0), 1);
        Checks.due("missed", x.count(0, 1), 0);
    }

    static void promise14OnceHoweverOftenItHeld() {
        Desk x = Desk.withTasks("* * * * *", 1);
        x.job("*/10 * * * *", 0);
        x.job("0 0 2 1 *", 0);
        x.job("0 0 3 1 *", 0);
        x.down(true);
        x.pass(2000);
        Checks.due("up", x.down(false), 1);
        Checks.due("entries", x.log(), "1@2000:0 1@2000:1 8@2000:1 1@2000:2 8@2000:2 3@2000:0.0");
        Checks.due("runs", x.count(0, 0), 1);
        Checks.due("missed", x.count(0, 1), 0);
        Checks.due("it did not hold", x.count(3, 0), 0);
    }

    static void promise14ALongFall() {
        Desk x = new Desk();
        x.job("0 0 29 2 *", 0);
        x.job("0 0 28 2 *", 0);
        x.job("0 0 30 2 *", 0);
        x.job("1 0 31 12 *", 0);
        x.job("0 0 31 12 *", 0);
        x.set(Calendar.minute(2003, 12, 31, 0, 0));
        x.down(true);
        while (x.now() < Calendar.minute(2004, 2, 29, 0, 0)) {
            x.pass(1440);
        }
        x.down(false);
        Checks.due("29 February", x.count(0, 0), 1);
        Checks.due("28 February", x.count(1, 0), 1);
        Checks.due("30 February", x.count(2, 0), 0);
        Checks.due("the first minute of the fall", x.count(3, 0), 1);
        Checks.due("the minute of the fall", x.count(4, 0), 0);
    }

    static void promise14WhatRanEndsBadlyByJobsAndTasks() {
        Desk x = Desk.withJob("1 0 1 1 *");
        x.job("1 0 1 1 *", 5);
        x.task(0, 0, 2, 10);
        x.task(0, 0, 1, 0);
        x.task(0, 2, 1, 0);
        x.task(1, 0, 2, 0);
        x.task(1, 0, 1, 0);
        x.slots(4);
        x.pass(1);
        Checks.due("down", x.down(true), 0);
        Checks.due("still running", x.count(0, 4), 4);
        x.pass(20);
        Checks.due("up", x.down(false), 1);
        Checks.due("entries", x.log(6), "5@21:0.0 6@21:0.1 7@21:0.2 5@21:1.0 6@21:1.1 3@21:1.0");
        Checks.due("pausing from now on", x.pass(9), 0);
        Checks.due("until then", x.pass(1), 1);
    }

    static void promise14OneTryIsSpentByIt() {
        Desk x = Desk.withJob("1 0 1 1 *");
        x.task(0, 0, 4, 100);
        x.pass(1);
        for (int pause = 100; pause <= 400; pause *= 2) {
            x.down(true);
            Checks.due("up", x.down(false), 0);
            Checks.due("one less than its pause", x.pass(pause - 1), 0);
            Checks.due("its pause", x.pass(1), 1);
        }
        x.down(true);
        Checks.due("up", x.down(false), 0);
        Checks.due("failed", x.states(0), "5");
        Checks.due("over", x.log(2), "6@701:0.0 8@701:0");
    }

    static void promise14APauseOfNoneStartsAtOnce() {
        Desk x = Desk.withJob("1 0 1 1 *");
        x.task(0, 0, 2, 0);
        x.pass(1);
        x.down(true);
        Checks.due("up", x.down(false), 1);
        Checks.due("entries", x.log(), "1@1:0 3@1:0.0 5@1:0.0 3@1:0.0");
    }

    static void promise14EndsComeBeforeFiring() {
        Desk x = Desk.withTasks("* * * * *", 1);
        x.job("* * * * *", 0);
        x.task(1, 0, 2, 0);
        x.pass(1);
        x.down(true);
        x.pass(3);
        Checks.due("up", x.down(false), 2);
        Checks.due("a run that is over begins, one under way is missed", x.log(7),
            "6@4:0.0 8@4:0 5@4:1.0 1@4:0 2@4:1 3@4:0.0 3@4:1.0");
    }

    static void promise14FiringComesBeforeStarting() {
        Desk x = new Desk();
        x.job("1 0 1 1 *", 0);
        x.job("2 0 1 1 *", 5);
        x.tasks(0, 3);
        x.tasks(1, 1);
        x.slots(1);
        x.pass(1);
        x.down(true);
        x.pass(1);
        Checks.due("up", x.down(false), 1);
        Checks.due("the greater rank, though fired now", x.log(3), "6@2:0.0 1@2:1 3@2:1.0");
    }

    static void promise14WhatWaitedStartsThoughNothingIsFired() {
        Desk x = Desk.withTasks("1 0 1 1 *", 2);
        x.slots(1);
        x.pass(1);
        x.down(true);
        Checks.due("up at once", x.down(false), 1);
        Checks.due("entries", x.log(2), "6@1:0.0 3@1:0.1");
    }

    static void promise14WhatPausedStartsWhenItsMinuteHasPassed() {
        for (int length = 4; length <= 6; length++) {
            Desk x = Desk.withJob("1 0 1 1 *");
            x.task(0, 0, 2, 5);
            x.pass(1);
            x.end(0, 0, false);
            x.down(true);
            x.pass(length);
            Checks.due("up behind " + length, x.down(false), length >= 5 ? 1 : 0);
            Checks.due("its state", x.state(0, 0), length >= 5 ? 3 : 2);
        }
    }

    static void promise14NoMoreThanThereAreSlots() {
        Desk x = new Desk();
        for (int job = 0; job < 6; job++) {
            x.job("* * * * *", job);
            x.tasks(job, 1);
        }
        x.slots(3);
        x.down(true);
        x.pass(1);
        Checks.due("up", x.down(false), 3);
        Checks.due("running", x.count(0, 4), 3);
        Checks.due("by rank", x.log(3), "3@1:5.0 3@1:4.0 3@1:3.0");
    }

    static void promise14TheSecondFallCountsFromItself() {
        Desk x = Desk.withTasks("5 * * * *", 1);
        x.pass(4);
        x.down(true);
        x.pass(2);
        Checks.due("the first", x.down(false), 1);
        x.end(0, 0, true);
        x.down(true);
        x.pass(6);
        Checks.due("the second", x.down(false), 0);
        Checks.due("runs", x.count(0, 0), 1);
        Checks.due("missed", x.count(0, 1), 0);
        x.pass(1);
        x.down(true);
        x.pass(60);
        Checks.due("the third", x.down(false), 1);
    }

    static void promise14StepsGoOnWhenItIsUp() {
        Desk x = Desk.withTasks("*/5 * * * *", 1);
        x.down(true);
        x.pass(3);
        Checks.due("up", x.down(false), 0);
        Checks.due("to the fifth", x.pass(2), 1);
        Checks.due("entries", x.log(), "1@5:0 3@5:0.0");
    }

    static void promise14AJobMadeWhileItWasDown() {
        Desk x = new Desk();
        x.down(true);
        x.pass(9);
        x.job("5 * * * *", 0);
        x.task(0, 0, 1, 0);
        Checks.due("up", x.down(false), 1);
        Checks.due("entries", x.log(), "1@9:0 3@9:0.0");
    }

    static void promise14WithoutJobs() {
        Desk x = new Desk();
        Checks.due("down", x.down(true), 0);
        x.pass(100);
        Checks.due("up", x.down(false), 0);
        Checks.due("entries()", x.entries(), 0);
    }
}
