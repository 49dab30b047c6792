/** Promise 7 again: what a UNIT of time does, as the terms say it. */
public final class Promise07UnitTest extends Tests {
    // A periodic task releases a job at the times offset, offset + T, and so on.
    static void promise07ReleaseAtOffsetZero() {
        Run run = started(task(4, 1, 4, 3, 0));
        run.tell(0, 0).is(0);
        run.pass(1);
        run.tell(0, 0).is(1);
        run.timeline(0).is(0);
    }

    static void promise07NoReleaseBeforeTheOffset() {
        Run run = started(task(4, 1, 4, 3, 2));
        run.pass(2);
        run.tell(0, 0).is(0);
        run.pass(1);
        run.tell(0, 0).is(1);
        run.timelines(0, NONE, NONE, 0);
    }

    static void promise07ReleaseAtTheGreatestOffset() {
        Run run = started(task(60, 1, 60, 3, 59), task(2, 1, 2, 3, 59));
        run.pass(59);
        run.count(4).is(0);
        run.count(1).is(59);
        run.pass(1);
        run.tell(0, 0).is(1);
        run.tell(1, 0).is(1);
        run.pass(59);
        run.tell(0, 0).is(1);
        run.tell(1, 0).is(30);
        run.pass(1);
        run.tell(0, 0).is(2);
        run.tell(1, 0).is(31);
    }

    static void promise07ReleaseInEachPeriod() {
        Run run = started(task(3, 1, 3, 3, 1));
        run.pass(11);
        run.timelines(0, NONE, 0, NONE, NONE, 0, NONE, NONE, 0, NONE, NONE, 0);
        run.tell(0, 0).is(4);
    }

    // All periodic jobs that are to be released at t are released.
    static void promise07AllThatAreDueAreReleasedInOneUnit() {
        int[] due = task(30, 2, 30, 3, 5);
        Run run = started(due, due, due, due, due, due);
        run.pass(5);
        run.count(4).is(0);
        run.pass(1);
        run.count(4).is(6);
        run.ran().is(0);
    }

    // A task's jobs are done one after another in the order of their releases.
    static void promise07JobsAreDoneInTheOrderOfTheirReleases() {
        Run run = started(task(4, 2, 4, 1, 0), task(60, 9, 60, 9, 0));
        run.pass(9);
        run.tells(0, 3, 0, 2, 0, 0, 1, 0);
        run.pass(1);
        run.tells(0, 3, 0, 2, 0, 1, 1, 0);
        run.pass(1);
        run.tells(0, 3, 1, 2, 11, 0, 1, 4);
        run.pass(2);
        run.tells(0, 4, 2, 3, 11, 0, 1, 8);
    }

    // The release times go round in what holds the eight of them.
    static void promise07TheOrderHoldsOverManyRounds() {
        Run run = started(task(4, 3, 4, 1, 0), task(60, 20, 60, 9, 0));
        run.pass(20);
        run.tell(0, 0).is(5);
        for (int job = 0; job < 13; job++) {
            run.tell(0, 6).is(4 * job);
            run.tell(0, 1).is(job);
            run.pass(3);
        }
        run.tell(0, 3).is(23);
    }

    // Without a FRONT the UNIT is IDLE.
    static void promise07WithoutAFrontTheUnitIsIdle() {
        Run run = started(task(4, 1, 4, 3, -1));
        run.pass(2);
        run.event(0).is(DONE);
        run.pass(2);
        run.timelines(0, NONE, NONE, 0, NONE);
        run.count(1).is(3);
    }

    // The one with the greatest ACTIVE priority
    static void promise07TheGreatestPriorityRuns() {
        Run run = started(task(20, 5, 20, 2, 0), task(20, 2, 20, 3, 2), task(20, 1, 20, 1, 0));
        run.pass(9);
        run.timelines(0, 0, 0, 1, 1, 0, 0, 0, 2, NONE);
    }

    static void promise07AnEqualPriorityDoesNotBreakIn() {
        Run run = started(task(20, 2, 20, 5, 1), task(20, 3, 20, 5, 0));
        run.pass(6);
        run.timelines(0, 1, 1, 1, 0, 0, NONE);
    }

    // Task 1 (priority 5) comes before each unit of task 0, whose units 1 .. 3 use object 0.
    private static Run comesAt(int time, int ceiling) {
        Run run = with(task(30, 6, 30, 2, 0), task(30, 1, 30, 5, -1));
        run.ceiling(0, ceiling).is(DONE);
        run.section(0, 0, 1, 3).is(DONE);
        run.start().is(DONE);
        if (time > 0) {
            run.pass(time);
        }
        run.event(1).is(DONE);
        run.pass(7 - time);
        return run;
    }

    private static void dueInUnit(Run run, int unit) {
        for (int t = 0; t < 7; t++) {
            run.timeline(t).is(t == unit ? 1 : 0);
        }
    }

    static void promise07ItIsNotHeldBeforeItsFirstUnitIsDone() {
        dueInUnit(comesAt(0, 6), 0);
        dueInUnit(comesAt(1, 6), 1);
    }

    static void promise07AHolderWithAHigherCeilingRunsOn() {
        dueInUnit(comesAt(2, 6), 4);
        dueInUnit(comesAt(3, 6), 4);
    }

    static void promise07AHolderWithAnEqualCeilingRunsOn() {
        dueInUnit(comesAt(2, 5), 4);
        dueInUnit(comesAt(3, 5), 4);
    }

    static void promise07AHolderWithALowerCeilingDoesNot() {
        dueInUnit(comesAt(2, 4), 2);
        dueInUnit(comesAt(3, 4), 3);
    }

    static void promise07ItIsNotHeldAfterItsLastUnit() {
        dueInUnit(comesAt(4, 10), 4);
        dueInUnit(comesAt(5, 10), 5);
        dueInUnit(comesAt(6, 10), 6);
    }

    static void promise07BetweenTwoSectionsNothingIsHeld() {
        Run run = with(task(30, 6, 30, 2, 0), task(30, 1, 30, 5, 3));
        run.section(0, 0, 0, 3).is(DONE);
        run.section(0, 0, 3, 3).is(DONE);
        run.start().is(DONE);
        run.pass(7);
        dueInUnit(run, 3);
    }

    // Of equal ones, first one that HOLDS an object
    static void promise07OfEqualOnesAHolderRunsBeforeAnOlderJob() {
        // Task 1's second job, of 2, holds object 0 at 4; task 0's job is of 1.
        Run run = with(task(10, 1, 10, 5, -1), task(2, 2, 2, 5, 0), task(10, 1, 10, 9, -1));
        run.ceiling(0, 5).is(DONE);
        run.section(1, 0, 0, 2).is(DONE);
        run.start().is(DONE);
        run.pass(1);
        run.event(0).is(DONE);
        run.pass(2);
        run.event(2).is(DONE);
        run.pass(2);
        run.timelines(0, 1, 1, 1, 2, 1);
    }

    // Then one of the task that RAN in the unit before this
    static void promise07TheTaskThatRanRunsBeforeAnOlderJob() {
        Run run = started(task(10, 1, 10, 5, -1), task(2, 2, 2, 5, 0));
        run.pass(1);
        run.event(0).is(DONE);
        run.pass(4);
        run.timelines(0, 1, 1, 1, 1, 1);
        run.tell(0, 6).is(1);
    }

    static void promise07OnlyTheUnitBeforeThisCounts() {
        // Task 2 runs in unit 3: then the older job goes first, though task 1 ran in unit 2.
        Run run = started(task(10, 1, 10, 5, -1), task(2, 2, 2, 5, 0), task(10, 1, 10, 9, 3));
        run.pass(1);
        run.event(0).is(DONE);
        run.pass(5);
        run.timelines(0, 1, 1, 1, 2, 0, 1);
    }

    static void promise07AnIdleUnitBeforeThisFavoursNone() {
        Run run = started(task(3, 1, 3, 5, 2), task(2, 1, 2, 5, 0));
        run.pass(3);
        run.timelines(0, 1, NONE, 0);
    }

    // Then the one with the earliest release
    static void promise07TheEarliestReleaseRuns() {
        Run run = started(task(20, 1, 20, 5, 2), task(20, 1, 20, 5, 1), task(20, 1, 20, 5, 0), task(20, 3, 20, 9, 0));
        run.pass(6);
        run.timelines(0, 3, 3, 3, 2, 1, 0);
    }

    static void promise07TheReleaseOfTheFrontCounts() {
        // At 6 task 1 has jobs of 0, 3 and 6, and task 0 one of 2.
        Run run = started(task(20, 1, 20, 5, 2), task(3, 1, 3, 5, 0), task(20, 6, 20, 9, 0));
        run.pass(8);
        run.timelines(5, 2, 1, 1);
        run.tell(1, 6).is(6);
    }

    // Then the least task
    static void promise07TheLeastTaskRuns() {
        Run run = started(task(20, 2, 20, 5, 0), task(20, 2, 20, 5, 0), task(20, 2, 20, 5, 0), task(20, 1, 20, 9, 0));
        run.pass(7);
        run.timelines(0, 3, 0, 0, 1, 1, 2, 2);
    }

    // One unit of it is done. A job is done when its C-th unit is.
    static void promise07AJobOfOneUnitIsDoneInIt() {
        Run run = started(task(10, 1, 1, 5, 0));
        run.pass(1);
        run.tells(0, 1, 1, 0, 1, NONE, NONE, NONE);
    }

    static void promise07TheJobIsNotDoneBeforeItsLastUnit() {
        Run run = started(task(60, 60, 60, 5, 0));
        run.pass(59);
        run.tells(0, 1, 0, 0, 0, 59, 5, 0);
        run.pass(1);
        run.tells(0, 1, 1, 0, 60, NONE, NONE, NONE);
    }

    public static void main(String[] args) {
        run(Promise07UnitTest.class);
    }
}
