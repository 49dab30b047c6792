/** Promise 9: tell. */
public final class Promise09TellTest extends Tests {
    // REFUSED for no such task
    static void promise09NoSuchTaskIsRefused() {
        Run run = with(task(10, 2, 10, 3, 0), task(10, 2, 10, 3, 0));
        for (int task : new int[] {-1, 2, 5, 6, MIN, MAX}) {
            for (int what = 0; what <= 6; what++) {
                run.tell(task, what).isRefused();
            }
        }
        run.tell(0, 0).is(0);
        run.tell(1, 0).is(0);
    }

    static void promise09TheSixthTaskIsOne() {
        int[] small = task(30, 1, 30, 1, 0);
        Run run = with(small, small, small, small, small, small);
        run.tell(5, 0).is(0);
        run.tell(6, 0).isRefused();
    }

    // or another what
    static void promise09AnotherWhatIsRefused() {
        Run run = started(task(10, 2, 10, 3, 0));
        run.pass(1);
        for (int what : new int[] {-1, 7, MIN, MAX}) {
            run.tell(0, what).isRefused();
        }
        run.tells(0, 1, 0, 0, 0, 1, 3, 0);
    }

    static void promise09NothingAtFirst() {
        Run run = with(task(10, 2, 10, 3, 0));
        run.tells(0, 0, 0, 0, 0, NONE, NONE, NONE);
        run.start().is(DONE);
        run.tells(0, 0, 0, 0, 0, NONE, NONE, NONE);
    }

    // 0: jobs released, 1: jobs done
    static void promise09JobsReleasedAndDone() {
        Run run = started(task(6, 2, 6, 3, 1));
        int[] released = {0, 0, 1, 1, 1, 1, 1, 1, 2, 2};
        int[] done = {0, 0, 0, 1, 1, 1, 1, 1, 1, 2};
        for (int t = 0; t < released.length; t++) {
            run.tells(0, released[t], done[t]);
            run.pass(1);
        }
    }

    static void promise09MoreJobsThanCanWait() {
        Run run = started(task(2, 1, 2, 3, 0));
        run.pass(200);
        run.tells(0, 100, 100, 0, 1, NONE, NONE, NONE);
        run.pass(200);
        run.tells(0, 200, 200, 0, 1, NONE, NONE, NONE);
    }

    static void promise09EachTaskHasItsOwn() {
        Run run = started(task(10, 2, 10, 3, 0), task(5, 1, 5, 4, 2));
        run.pass(8);
        run.tells(0, 1, 1, 0, 2, NONE, NONE, NONE);
        run.tells(1, 2, 2, 0, 1, NONE, NONE, NONE);
    }

    // 2: jobs that were or are LATE: not done D after the release
    static void promise09AJobIsLateFromItsDeadlineOn() {
        Run run = started(task(20, 6, 3, 3, 2));
        run.pass(4);
        run.tell(0, 2).is(0);
        run.pass(1);
        run.tell(0, 2).is(1);
        run.pass(1);
        run.tell(0, 2).is(1);
    }

    static void promise09DoneJustAtItsDeadlineIsNotLate() {
        Run run = started(task(20, 3, 3, 3, 2));
        run.pass(5);
        run.tells(0, 1, 1, 0, 3, NONE, NONE, NONE);
        run.pass(10);
        run.tell(0, 2).is(0);
    }

    static void promise09DoneOneUnitAfterItsDeadlineIsLate() {
        Run run = started(task(20, 4, 3, 3, 2));
        run.pass(6);
        run.tells(0, 1, 1, 1, 4, NONE, NONE, NONE);
    }

    static void promise09AJobThatWasLateStaysCounted() {
        Run run = started(task(10, 1, 1, 3, 0), task(60, 1, 60, 9, 0));
        run.pass(1);
        run.tell(0, 2).is(1);
        run.pass(1);
        run.tells(0, 1, 1, 1, 2, NONE, NONE, NONE);
        run.pass(38);
        run.tells(0, 4, 4, 1, 2, NONE, NONE, NONE);
    }

    static void promise09TheLeastDeadline() {
        Run run = started(task(20, 1, 1, 3, 0), task(20, 2, 1, 2, 1));
        run.pass(1);
        run.tell(0, 2).is(0);
        run.tell(1, 2).is(0);
        run.pass(1);
        run.tell(1, 2).is(1);
        run.pass(5);
        run.tell(0, 2).is(0);
        run.tell(1, 2).is(1);
    }

    static void promise09TheGreatestDeadline() {
        Run run = started(task(60, 59, 59, 9, 0), task(60, 1, 60, 5, 0), task(60, 1, 60, 1, 0));
        run.pass(59);
        run.tell(1, 2).is(0);
        run.pass(1);
        run.tell(0, 2).is(0);
        run.tell(1, 2).is(0);
        run.tell(2, 2).is(1);
    }

    static void promise09AnEventsJobIsLateFromItsDeadlineOn() {
        Run run = started(task(20, 6, 3, 3, -1));
        run.pass(4);
        run.event(0).is(DONE);
        run.tell(0, 2).is(0);
        run.pass(2);
        run.tell(0, 2).is(0);
        run.pass(1);
        run.tell(0, 2).is(1);
    }

    static void promise09EachWaitingJobIsLateByItself() {
        Run run = started(task(60, 12, 60, 9, 0), task(4, 3, 3, 1, 0));
        int[] late = {0, 0, 0, 1, 1, 1, 1, 2, 2, 2, 2, 3, 3};
        for (int t = 1; t <= 12; t++) {
            run.pass(1);
            run.tell(1, 2).is(late[t]);
        }
        run.tells(1, 3, 0, 3, 0, 0, 1, 0);
        run.pass(4);
        run.tells(1, 4, 1, 4, 15, 1, 1, 4);
    }

    static void promise09AllEightWaitingJobsAreLate() {
        Run run = started(task(2, 2, 2, 9, 0), task(3, 1, 3, 1, 1));
        run.pass(24);
        run.tell(1, 2).is(7);
        run.pass(1);
        run.tell(1, 2).is(8);
        run.tick(1).isFull();
        run.tell(1, 2).is(8);
    }

    // 3: the greatest RESPONSE of a job done (0 if none)
    static void promise09NoResponseBeforeAJobIsDone() {
        Run run = started(task(10, 3, 10, 3, 1));
        run.pass(3);
        run.tell(0, 3).is(0);
        run.pass(1);
        run.tell(0, 3).is(3);
    }

    static void promise09TheGreatestResponseStays() {
        Run run = started(task(10, 2, 10, 3, 0), task(60, 3, 60, 9, 10));
        run.pass(10);
        run.tell(0, 3).is(2);
        run.pass(5);
        run.tell(0, 3).is(5);
        run.pass(10);
        run.tell(0, 1).is(3);
        run.tell(0, 3).is(5);
    }

    // 4: units done of its FRONT (NONE without one)
    static void promise09UnitsOfTheFront() {
        Run run = started(task(6, 3, 6, 3, 1), task(60, 1, 60, 9, 2));
        int[] units = {NONE, NONE, 1, 1, 2, NONE, NONE, NONE, 1};
        for (int t = 0; t < units.length; t++) {
            run.tell(0, 4).is(units[t]);
            run.pass(1);
        }
    }

    static void promise09AFrontThatHasNotRunHasNoUnits() {
        Run run = started(task(10, 3, 10, 3, 0), task(10, 1, 10, 9, 0));
        run.pass(1);
        run.tells(0, 1, 0, 0, 0, 0, 3, 0);
    }

    static void promise09TheNextFrontBeginsAnew() {
        Run run = started(task(3, 3, 3, 3, 0));
        int[] units = {NONE, 1, 2, NONE, 1, 2, NONE};
        for (int want : units) {
            run.tell(0, 4).is(want);
            run.pass(1);
        }
    }

    // 5: the ACTIVE priority of its FRONT (NONE without one)
    static void promise09TheActivePriorityInAndBetweenSections() {
        Run run = with(task(20, 7, 20, 3, 0));
        run.ceiling(0, 4).is(DONE);
        run.ceiling(1, 9).is(DONE);
        run.section(0, 0, 0, 3).is(DONE);
        run.section(0, 1, 3, 2).is(DONE);
        run.section(0, 2, 6, 1).is(DONE);
        run.start().is(DONE);
        int[] active = {NONE, 4, 4, 3, 9, 3, 3, NONE};
        for (int want : active) {
            run.tell(0, 5).is(want);
            run.pass(1);
        }
    }

    static void promise09TheActivePriorityUnderAnEqualCeiling() {
        Run run = with(task(20, 3, 20, 3, 0));
        run.ceiling(0, 3).is(DONE);
        run.section(0, 0, 0, 3).is(DONE);
        run.start().is(DONE);
        run.pass(1);
        run.tell(0, 5).is(3);
    }

    static void promise09TheActivePriorityOfAFrontThatWaits() {
        Run run = with(task(20, 3, 20, 3, 0), task(20, 2, 20, 8, 1));
        run.ceiling(0, 6).is(DONE);
        run.section(0, 0, 0, 3).is(DONE);
        run.start().is(DONE);
        run.pass(2);
        run.ran().is(1);
        run.tell(0, 5).is(6);
        run.tell(1, 5).is(8);
    }

    static void promise09ASectionThatEndsWithTheJobIsLeft() {
        Run run = with(task(4, 2, 4, 3, 0), task(60, 1, 60, 9, 4));
        run.section(0, 0, 0, 2).is(DONE);
        run.start().is(DONE);
        run.pass(2);
        run.tell(0, 5).is(NONE);
        run.pass(3);
        run.tells(0, 2, 1, 0, 2, 0, 3, 4);
    }

    // 6: the release time of its FRONT (NONE without one)
    static void promise09TheReleaseTimeOfTheFront() {
        Run run = started(task(6, 2, 6, 3, 1));
        int[] releases = {NONE, NONE, 1, NONE, NONE, NONE, NONE, NONE, 7, NONE};
        for (int want : releases) {
            run.tell(0, 6).is(want);
            run.pass(1);
        }
    }

    static void promise09TheReleaseTimeMayBeZero() {
        Run run = started(task(6, 2, 6, 3, 0));
        run.pass(1);
        run.tell(0, 6).is(0);
    }

    static void promise09TheReleaseTimeOverManyRounds() {
        // From 12 on four jobs wait at all times, and a job is done every four units.
        Run run = started(task(4, 4, 4, 3, 0), task(60, 12, 60, 9, 0));
        run.pass(13);
        for (int job = 0; job < 11; job++) {
            run.tells(0, job + 4, job, job + 3, job == 0 ? 0 : 16, 1, 3, 4 * job);
            run.pass(4);
        }
    }

    public static void main(String[] args) {
        run(Promise09TellTest.class);
    }
}
