/** Promise 12: bound. */
public final class Promise12BoundTest extends Tests {
    // REFUSED if there is no such task
    static void promise12NoSuchTaskIsRefused() {
        Run run = with(task(5, 2, 5, 9, 0), task(7, 2, 7, 8, -1));
        for (int task : new int[] {-1, 2, 6, MIN, MAX}) {
            run.bound(task).isRefused();
        }
        run.bound(0).is(2);
        run.bound(1).is(4);
        run.start().is(DONE);
        run.bound(-1).isRefused();
        run.bound(2).isRefused();
    }

    static void promise12TheSixthTaskIsOne() {
        int[] small = task(60, 1, 60, 2, 0);
        Run run = with(small, small, small, small, small, small);
        run.bound(5).is(6);
        run.bound(6).isRefused();
    }

    // The least R, 1 <= R
    static void promise12OneIsTheLeastBound() {
        Run run = with(task(2, 1, 1, 5, 0));
        run.bound(0).is(1);
    }

    static void promise12TheLeastOfSeveralIsTaken() {
        // R = 1 + 1 * up(R / 2) holds for 2 and for 3.
        Run run = with(task(60, 1, 60, 1, 0), task(2, 1, 2, 9, 0));
        run.bound(0).is(2);
    }

    // R <= T
    static void promise12JustItsPeriodIsABound() {
        // 3 + 2 * up(R / 5) + 2 * up(R / 7): 7, 9, 11, 13, 13.
        Run run = with(task(5, 2, 5, 9, 0), task(7, 2, 7, 8, -1), task(13, 3, 13, 7, 3));
        run.bound(2).is(13);
    }

    static void promise12OneAboveItsPeriodIsNone() {
        Run run = with(task(5, 2, 5, 9, 0), task(7, 2, 7, 8, -1), task(12, 3, 12, 7, 3));
        run.bound(2).is(NONE);
    }

    static void promise12ItsCostMayBeItsPeriod() {
        Run run = with(task(2, 2, 2, 1, 0));
        run.bound(0).is(2);
        run = with(task(60, 60, 60, 1, 0));
        run.bound(0).is(60);
        run.define(60, 1, 60, 2, 0).is(1);
        run.bound(0).is(NONE);
        run.bound(1).is(1);
    }

    // NONE if there is none
    static void promise12NoneUnderAFullProcessor() {
        Run run = with(task(2, 2, 2, 9, 0), task(60, 1, 60, 1, 0));
        run.bound(0).is(2);
        run.bound(1).is(NONE);
    }

    static void promise12ItsDeadlineDoesNotMatter() {
        Run run = with(task(10, 4, 1, 5, 0));
        run.bound(0).is(4);
    }

    // B
    static void promise12TheBlockingIsAdded() {
        Run run = with(task(5, 2, 5, 9, 0), task(60, 9, 60, 1, -1));
        run.bound(0).is(2);
        run.section(1, 0, 0, 1).is(DONE);
        run.bound(0).is(3);
        run.section(1, 0, 4, 3).is(DONE);
        run.bound(0).is(5);
        run.section(1, 0, 1, 2).is(DONE);
        run.bound(0).is(5);
    }

    static void promise12TheBlockingMayBringItAboveItsPeriod() {
        Run run = with(task(5, 2, 5, 9, 0), task(60, 9, 60, 1, -1));
        run.section(1, 0, 0, 4).is(DONE);
        run.bound(0).is(NONE);
    }

    // all other tasks j whose priority is not below i's
    static void promise12AHigherPriorityCounts() {
        Run run = with(task(30, 4, 30, 5, 0), task(30, 3, 30, 6, 0));
        run.bound(0).is(7);
        run.bound(1).is(3);
    }

    static void promise12AnEqualPriorityCounts() {
        Run run = with(task(30, 4, 30, 5, 0), task(30, 3, 30, 5, 0));
        run.bound(0).is(7);
        run.bound(1).is(7);
    }

    static void promise12ALowerPriorityDoesNotCount() {
        Run run = with(task(30, 4, 30, 5, 0), task(30, 3, 30, 4, 0));
        run.bound(0).is(4);
        run.bound(1).is(7);
    }

    static void promise12SporadicTasksCountAsPeriodicOnes() {
        Run run = with(task(30, 4, 30, 5, -1), task(30, 3, 30, 6, -1));
        run.bound(0).is(7);
    }

    static void promise12TheOffsetDoesNotMatter() {
        Run run = with(task(30, 4, 30, 5, 3), task(30, 3, 30, 6, 59));
        run.bound(0).is(7);
    }

    // C of j times R / T of j rounded up
    static void promise12AMultipleOfThePeriodIsNotRoundedUp() {
        Run run = with(task(20, 6, 20, 5, 0), task(10, 4, 10, 6, 0));
        run.bound(0).is(10);
    }

    static void promise12OneAboveAMultipleIsRoundedUp() {
        Run run = with(task(20, 7, 20, 5, 0), task(10, 4, 10, 6, 0));
        run.bound(0).is(15);
    }

    static void promise12TheSumOverAllOthers() {
        Run run = with(
            task(60, 5, 60, 1, 0), task(10, 1, 10, 2, 0), task(12, 1, 12, 3, 0), task(15, 1, 15, 4, 0), task(20, 1, 20, 5, 0),
            task(30, 1, 30, 6, 0));
        // 5 + 5, and the first period is just over at 10.
        run.bound(0).is(10);
        run.bound(5).is(1);
    }

    static void promise12TheSameAfterStart() {
        Run run = with(task(5, 2, 5, 9, 0), task(60, 9, 60, 1, -1));
        run.section(1, 0, 0, 1).is(DONE);
        run.start().is(DONE);
        run.bound(0).is(3);
        run.bound(1).is(15);
        run.pass(20);
        run.bound(0).is(3);
        run.bound(1).is(15);
    }

    public static void main(String[] args) {
        run(Promise12BoundTest.class);
    }
}
