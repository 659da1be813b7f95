/** What the terms say of jobs: firing, starting and ending, and what a step is. */
public final class TermsJobsTest {
    /** Holds at minute 1 and then not for a year. */
    private static final String ONCE = "1 0 1 1 *";

    public static void main(String[] args) {
        Checks.run(TermsJobsTest.class);
    }

    // To fire.

    static void termsFireBeginsARun() {
        Desk x = Desk.withTasks("*/2 * * * *", 3);
        x.pass(2);
        Checks.due("begun", x.count(0, 0), 1);
        Checks.due("missed", x.count(0, 1), 0);
        Checks.due("under way", x.count(0, 2), 1);
        Checks.due("two run, one waits", x.states(0), "331");
    }

    static void termsFireIsMissedWhileARunIsUnderWay() {
        Desk x = Desk.withTasks("*/2 * * * *", 3);
        x.pass(2);
        x.end(0, 1, true);
        x.pass(1);
        String before = x.states(0);
        x.pass(1);
        Checks.due("missed", x.count(0, 1), 1);
        Checks.due("begun", x.count(0, 0), 1);
        Checks.due("states stay", x.states(0), before);
    }

    static void termsFireInTheStepBehindTheLastEnd() {
        Desk x = Desk.withTasks("* * * * *", 1);
        x.pass(1);
        x.end(0, 0, true);
        Checks.due("pass(1)", x.pass(1), 1);
        Checks.due("begun", x.count(0, 0), 2);
        Checks.due("missed", x.count(0, 1), 0);
    }

    static void termsFireBeginsWithoutTries() {
        Desk x = Desk.withJob("* * * * *");
        x.task(0, 0, 2, 0);
        for (int run = 0; run < 3; run++) {
            x.pass(1);
            Checks.due("the first try", x.end(0, 0, false), 2);
            x.pass(1);
            Checks.due("the second", x.end(0, 0, false), 5);
        }
        Checks.due("runs", x.count(0, 0), 3);
        Checks.due("missed", x.count(0, 1), 3);
    }

    static void termsFireBeginsWithoutTriesWhenSomeWereLeft() {
        Desk x = Desk.withJob("*/10 * * * *");
        x.task(0, 0, 3, 1);
        x.pass(10);
        x.end(0, 0, false);
        x.pass(1);
        x.end(0, 0, true);
        x.pass(9);
        Checks.due("a pause as of the first try", x.end(0, 0, false), 2);
        Checks.due("one minute", x.pass(1), 1);
        Checks.due("the second try", x.end(0, 0, false), 2);
        Checks.due("its pause is two", x.pass(1), 0);
        Checks.due("minutes", x.pass(1), 1);
        Checks.due("the third try", x.end(0, 0, false), 5);
    }

    static void termsFireSetsAllTasksWaiting() {
        Desk x = Desk.withJob("*/5 * * * *");
        x.task(0, 0, 1, 0);
        x.task(0, 1, 1, 0);
        x.task(0, 0, 1, 0);
        x.pass(5);
        x.end(0, 0, false);
        x.end(0, 2, true);
        Checks.due("failed, left out, done", x.states(0), "564");
        x.slots(1);
        x.pass(5);
        Checks.due("all of them wait but one", x.states(0), "311");
    }

    static void termsFireAJobWithoutTasks() {
        Desk x = Desk.withJob("* * * * *");
        x.pass(2);
        Checks.due("begun", x.count(0, 0), 2);
        Checks.due("missed", x.count(0, 1), 0);
        Checks.due("under way", x.count(0, 2), 0);
        Checks.due("entries", x.log(), "1@1:0 8@1:0 1@2:0 8@2:0");
    }

    // Ready, and to start.

    static void termsReadyWhenAllThatItNeedsAreDone() {
        Desk x = Desk.withTasks(ONCE, 2);
        x.task(0, 3, 1, 0);
        x.slots(6);
        Checks.due("two need nothing", x.pass(1), 2);
        Checks.due("neither is done", x.pass(1), 0);
        x.end(0, 0, true);
        Checks.due("one of two is done", x.pass(1), 0);
        x.end(0, 1, true);
        Checks.due("both are", x.pass(1), 1);
    }

    static void termsReadyNeedsWhatItNamesAlone() {
        for (int needed = 0; needed < 5; needed++) {
            Desk x = Desk.withTasks(ONCE, 5);
            x.task(0, 1 << needed, 1, 0);
            x.slots(6);
            Checks.due("all but the last", x.pass(1), 5);
            for (int other = 0; other < 5; other++) {
                if (other != needed) {
                    x.end(0, other, true);
                }
            }
            Checks.due("needed is " + needed, x.pass(1), 0);
            x.end(0, needed, true);
            Checks.due("it is done", x.pass(1), 1);
        }
    }

    static void termsReadyNeedsItInThisRun() {
        Desk x = Desk.withJob("*/10 * * * *");
        x.task(0, 0, 1, 0);
        x.task(0, 1, 1, 0);
        x.pass(10);
        x.end(0, 0, true);
        x.pass(1);
        x.end(0, 1, true);
        x.slots(6);
        Checks.due("in the next run it waits again", x.pass(9), 1);
        Checks.due("states", x.states(0), "31");
    }

    static void termsReadyWhenThePauseIsNotAfterNow() {
        Desk x = Desk.withJob(ONCE);
        x.task(0, 0, 2, 3);
        x.pass(1);
        x.end(0, 0, false);
        Checks.due("two minutes", x.pass(2), 0);
        Checks.due("pausing", x.state(0, 0), 2);
        Checks.due("the third", x.pass(1), 1);
    }

    static void termsReadyWhenOneThatNeedsOthersHasPaused() {
        Desk x = Desk.withTasks(ONCE, 1);
        x.task(0, 1, 2, 3);
        x.pass(1);
        x.end(0, 0, true);
        x.pass(1);
        x.end(0, 1, false);
        Checks.due("two minutes", x.pass(2), 0);
        Checks.due("the third", x.pass(1), 1);
        Checks.due("states", x.states(0), "43");
    }

    static void termsReadyLaterWhenNoSlotIsFree() {
        Desk x = Desk.withJob(ONCE);
        x.task(0, 0, 2, 3);
        x.task(0, 0, 1, 0);
        x.slots(1);
        x.pass(1);
        x.end(0, 0, false);
        x.pass(10);
        Checks.due("still pausing, the other runs", x.states(0), "23");
        x.end(0, 1, true);
        Checks.due("a slot is free", x.pass(1), 1);
    }

    static void termsStartAsLongAsASlotIsFree() {
        Desk x = Desk.withTasks(ONCE, 6);
        Checks.due("two slots", x.pass(1), 2);
        Checks.due("none is free", x.pass(1), 0);
        x.end(0, 0, true);
        Checks.due("one is free", x.pass(1), 1);
        Checks.due("the least task", x.states(0), "433111");
    }

    static void termsStartAsLongAsSomeIsReady() {
        Desk x = Desk.withTasks(ONCE, 3);
        x.slots(6);
        Checks.due("three of six", x.pass(1), 3);
        Checks.due("no more", x.pass(1), 0);
    }

    static void termsStartOfTheGreatestRank() {
        for (int greatest = 0; greatest < 6; greatest++) {
            Desk x = new Desk();
            for (int job = 0; job < 6; job++) {
                x.job(ONCE, job == greatest ? 1 : 0);
                x.task(job, 0, 1, 0);
            }
            x.slots(1);
            x.pass(1);
            Checks.due("the greatest is " + greatest, x.log(1), "3@1:" + greatest + ".0");
        }
    }

    static void termsStartOfSeveralTheLeastJob() {
        Desk x = new Desk();
        for (int job = 0; job < 6; job++) {
            x.job(ONCE, -7);
            x.task(job, 0, 1, 0);
        }
        x.slots(6);
        x.pass(1);
        Checks.due("by jobs", x.log(6), "3@1:0.0 3@1:1.0 3@1:2.0 3@1:3.0 3@1:4.0 3@1:5.0");
    }

    static void termsStartOfItsTasksTheLeast() {
        Desk x = new Desk();
        int[] ranks = {1, 5, 5, -3};
        for (int rank : ranks) {
            int job = x.job(ONCE, rank);
            x.tasks(job, 2);
        }
        x.slots(6);
        Checks.due("started", x.pass(1), 6);
        Checks.due("all of a job before the next", x.log(6), "3@1:1.0 3@1:1.1 3@1:2.0 3@1:2.1 3@1:0.0 3@1:0.1");
        x.end(2, 1, true);
        x.pass(1);
        Checks.due("the last rank", x.log(1), "3@2:3.0");
    }

    static void termsStartOfALesserRankWhenTheGreaterHasNoneReady() {
        Desk x = new Desk();
        x.job(ONCE, 0);
        x.job(ONCE, 9);
        x.tasks(0, 2);
        x.task(1, 0, 1, 0);
        x.task(1, 1, 1, 0);
        x.slots(3);
        x.pass(1);
        Checks.due("the greater, then the lesser", x.log(3), "3@1:1.0 3@1:0.0 3@1:0.1");
    }

    static void termsStartAPausingAndAWaitingByNumber() {
        Desk x = Desk.withJob(ONCE);
        x.task(0, 0, 1, 0);
        x.task(0, 0, 2, 1);
        x.task(0, 0, 1, 0);
        x.slots(2);
        x.pass(1);
        x.end(0, 1, false);
        x.slots(1);
        x.end(0, 0, true);
        x.pass(1);
        Checks.due("the least, though it paused", x.states(0), "431");
    }

    // To end.

    static void termsEndWell() {
        Desk x = Desk.withTasks(ONCE, 2);
        x.pass(1);
        x.pass(4);
        Checks.due("end", x.end(0, 1, true), 4);
        Checks.due("state", x.state(0, 1), 4);
        Checks.due("entry", x.log(1), "4@5:0.1");
        Checks.due("its slot is free", x.count(0, 4), 1);
    }

    static void termsEndWellOnTheLastTry() {
        Desk x = Desk.withJob(ONCE);
        x.task(0, 0, 2, 0);
        x.pass(1);
        x.end(0, 0, false);
        x.pass(1);
        Checks.due("end", x.end(0, 0, true), 4);
        Checks.due("over", x.log(2), "4@2:0.0 8@2:0");
    }

    static void termsEndBadlyWithOneTry() {
        Desk x = Desk.withJob(ONCE);
        x.task(0, 0, 1, 3);
        x.pass(1);
        Checks.due("end", x.end(0, 0, false), 5);
        Checks.due("over", x.log(2), "6@1:0.0 8@1:0");
    }

    static void termsEndBadlyWhenThereAreMoreTries() {
        Desk x = Desk.withJob(ONCE);
        x.task(0, 0, 2, 3);
        x.task(0, 1, 1, 0);
        x.pass(1);
        Checks.due("end", x.end(0, 0, false), 2);
        Checks.due("entry", x.log(1), "5@1:0.0");
        Checks.due("what needs it waits", x.states(0), "21");
        Checks.due("under way", x.count(0, 2), 1);
        Checks.due("running", x.count(0, 4), 0);
    }

    static void termsEndPausesTwiceAsLongEachTime() {
        for (int pause : new int[] {1, 2, 7, 1000}) {
            Desk x = Desk.withJob(ONCE);
            x.task(0, 0, 4, pause);
            x.pass(1);
            for (int length = pause; length <= 4 * pause; length *= 2) {
                Checks.due("end badly", x.end(0, 0, false), 2);
                Checks.due("one less than " + length, length == 1 ? 0 : x.pass(length - 1), 0);
                Checks.due("and one", x.pass(1), 1);
            }
            Checks.due("the fourth", x.end(0, 0, false), 5);
        }
    }

    static void termsEndPausesFromTheEndNotFromTheStart() {
        Desk x = Desk.withJob(ONCE);
        x.task(0, 0, 2, 3);
        x.pass(1);
        x.pass(10);
        x.end(0, 0, false);
        Checks.due("two minutes", x.pass(2), 0);
        Checks.due("the third", x.pass(1), 1);
        Checks.due("at", x.entry(0, 1), 14);
    }

    static void termsEndAPauseBeyondTheLastMinute() {
        Desk x = Desk.withJob("* * * * *");
        x.task(0, 0, 2, 10);
        x.set(Checks.LIMIT - 11);
        x.pass(1);
        Checks.due("end", x.end(0, 0, false), 2);
        Checks.due("to the last", x.pass(9), 0);
        x.down(true);
        Checks.due("up at the last", x.down(false), 0);
        Checks.due("pausing still", x.state(0, 0), 2);
        Desk y = Desk.withJob("* * * * *");
        y.task(0, 0, 2, 9);
        y.set(Checks.LIMIT - 11);
        y.pass(1);
        y.end(0, 0, false);
        Checks.due("one minute less", y.pass(9), 1);
    }

    static void termsEndAPauseOf0() {
        Desk x = Desk.withJob(ONCE);
        x.task(0, 0, 4, 0);
        x.pass(1);
        for (int tried = 1; tried < 4; tried++) {
            Checks.due("end badly", x.end(0, 0, false), 2);
            Checks.due("the next step", x.pass(1), 1);
        }
        Checks.due("the fourth", x.end(0, 0, false), 5);
    }

    static void termsEndTriesAreOfEachTask() {
        Desk x = Desk.withJob(ONCE);
        x.task(0, 0, 2, 1);
        x.task(0, 0, 3, 1);
        x.pass(1);
        Checks.due("the first's first", x.end(0, 0, false), 2);
        Checks.due("the second's first", x.end(0, 1, false), 2);
        Checks.due("both again", x.pass(1), 2);
        Checks.due("the first's second", x.end(0, 0, false), 5);
        Checks.due("the second's second", x.end(0, 1, false), 2);
        Checks.due("twice as long", x.pass(1), 0);
        Checks.due("twice as long", x.pass(1), 1);
        Checks.due("the second's third", x.end(0, 1, false), 5);
    }

    static void termsFailedLeavesOutThoseThatNeedIt() {
        Desk x = Desk.withTasks(ONCE, 2);
        x.task(0, 1, 1, 0);
        x.task(0, 2, 1, 0);
        x.task(0, 3, 1, 0);
        x.task(0, 0, 1, 0);
        x.pass(1);
        Checks.due("fails", x.end(0, 0, false), 5);
        Checks.due("states", x.states(0), "536161");
        Checks.due("entries", x.log(3), "6@1:0.0 7@1:0.2 7@1:0.4");
        Checks.due("under way", x.count(0, 2), 1);
    }

    static void termsFailedLeavesOutThoseThatNeedSuch() {
        Desk x = Desk.withTasks(ONCE, 1);
        for (int task = 1; task < 6; task++) {
            x.task(0, 1 << (task - 1), 1, 0);
        }
        x.pass(1);
        x.end(0, 0, false);
        Checks.due("the whole chain", x.states(0), "566666");
        Checks.due("entries", x.log(7), "6@1:0.0 7@1:0.1 7@1:0.2 7@1:0.3 7@1:0.4 7@1:0.5 8@1:0");
    }

    static void termsFailedLeavesOutFromTheMiddle() {
        Desk x = Desk.withTasks(ONCE, 1);
        for (int task = 1; task < 6; task++) {
            x.task(0, 1 << (task - 1), 1, 0);
        }
        x.pass(1);
        x.end(0, 0, true);
        x.pass(1);
        x.end(0, 1, true);
        x.pass(1);
        x.end(0, 2, false);
        Checks.due("those behind it", x.states(0), "445666");
    }

    static void termsFailedLeavesOutOfItsJobAlone() {
        Desk x = Desk.withTasks(ONCE, 1);
        x.task(0, 1, 1, 0);
        x.job(ONCE, 0);
        x.task(1, 0, 1, 0);
        x.task(1, 1, 1, 0);
        x.pass(1);
        x.end(0, 0, false);
        Checks.due("the failed one's job", x.states(0), "56");
        Checks.due("the other", x.states(1), "31");
    }

    static void termsFailedLeavesOutWhileOthersRunAndPause() {
        Desk x = Desk.withTasks(ONCE, 2);
        x.task(0, 0, 2, 5);
        x.task(0, 7, 1, 0);
        x.slots(6);
        x.pass(1);
        x.end(0, 2, false);
        x.end(0, 0, false);
        Checks.due("states", x.states(0), "5326");
        Checks.due("one of the others goes on", x.end(0, 1, true), 4);
        Checks.due("under way", x.count(0, 2), 1);
        x.pass(5);
        x.end(0, 2, true);
        Checks.due("over", x.log(2), "4@6:0.2 8@6:0");
    }

    static void termsLeftOutIsNotLeftOutAgain() {
        Desk x = Desk.withTasks(ONCE, 2);
        x.task(0, 3, 1, 0);
        x.task(0, 2, 1, 0);
        x.task(0, 4, 1, 0);
        x.pass(1);
        x.end(0, 0, false);
        Checks.due("states", x.states(0), "53616");
        Checks.due("entries", x.log(3), "6@1:0.0 7@1:0.2 7@1:0.4");
        x.end(0, 1, false);
        Checks.due("states", x.states(0), "55666");
        Checks.due("what was left out is not so again", x.log(4), "7@1:0.4 6@1:0.1 7@1:0.3 8@1:0");
    }

    static void termsLeftOutNeverStarts() {
        Desk x = Desk.withTasks(ONCE, 1);
        x.task(0, 1, 1, 0);
        x.task(0, 0, 1, 0);
        x.pass(1);
        x.end(0, 0, false);
        Checks.due("none", x.pass(100), 0);
        Checks.due("states", x.states(0), "563");
    }

    static void termsTheRunIsOverWhenAllAreDone() {
        Desk x = Desk.withTasks(ONCE, 6);
        x.slots(6);
        x.pass(1);
        for (int task = 5; task >= 0; task--) {
            Checks.due("under way", x.count(0, 2), 1);
            x.end(0, task, true);
        }
        Checks.due("over", x.count(0, 2), 0);
        Checks.due("entries", x.log(2), "4@1:0.0 8@1:0");
        Checks.due("states stay", x.states(0), "444444");
    }

    static void termsTheRunIsOverWhenAllAreDoneFailedOrLeftOut() {
        Desk x = Desk.withTasks(ONCE, 2);
        x.task(0, 2, 1, 0);
        x.pass(1);
        x.end(0, 1, false);
        Checks.due("under way", x.count(0, 2), 1);
        x.end(0, 0, true);
        Checks.due("over", x.count(0, 2), 0);
        Checks.due("states stay", x.states(0), "456");
        x.pass(100);
        Checks.due("states stay", x.states(0), "456");
    }

    // A step.

    static void termsAStepGrowsNowFirst() {
        Desk x = Desk.withTasks("0 * * * *", 1);
        Checks.due("not at 0", x.pass(59), 0);
        Checks.due("at 60", x.pass(1), 1);
        Checks.due("its entries", x.log(), "1@60:0 3@60:0.0");
    }

    static void termsAStepFiresFrom0OnAndThenStarts() {
        Desk x = new Desk();
        for (int job = 0; job < 6; job++) {
            x.job("* * * * *", job);
        }
        x.tasks(1, 1);
        x.tasks(4, 1);
        x.pass(1);
        Checks.due("the first", x.log(),
            "1@1:0 8@1:0 1@1:1 1@1:2 8@1:2 1@1:3 8@1:3 1@1:4 1@1:5 8@1:5 3@1:4.0 3@1:1.0");
        x.end(4, 0, true);
        x.pass(1);
        Checks.due("the second", x.log(11),
            "1@2:0 8@2:0 2@2:1 1@2:2 8@2:2 1@2:3 8@2:3 1@2:4 1@2:5 8@2:5 3@2:4.0");
    }

    static void termsAStepStartsThoughNothingIsFired() {
        Desk x = Desk.withTasks(ONCE, 3);
        x.pass(1);
        x.end(0, 0, true);
        Checks.due("pass(1)", x.pass(1), 1);
        Checks.due("entry", x.log(1), "3@2:0.2");
    }

    static void termsAStepStartsNothingBeforeItFires() {
        Desk x = new Desk();
        x.job(ONCE, 0);
        x.tasks(0, 2);
        x.job("2 0 1 1 *", 1);
        x.tasks(1, 1);
        x.slots(1);
        x.pass(1);
        x.end(0, 0, true);
        Checks.due("pass(1)", x.pass(1), 1);
        Checks.due("what waited gives way to a greater rank", x.log(2), "1@2:1 3@2:1.0");
    }

    static void termsAStepFiresWhatHoldsThenAlone() {
        Desk x = new Desk();
        for (int job = 0; job < 6; job++) {
            x.job(job + " * * * *", 0);
        }
        x.pass(5);
        Checks.due("one in each minute", x.log(), "1@1:1 8@1:1 1@2:2 8@2:2 1@3:3 8@3:3 1@4:4 8@4:4 1@5:5 8@5:5");
        x.pass(55);
        Checks.due("the first at last", x.log(2), "1@60:0 8@60:0");
    }
}
