/** Promise 4: section. */
public final class Promise04SectionTest extends Tests {
    private static Run oneLong() {
        return with(task(60, 60, 60, 5, 0));
    }

    // No such task: REFUSED.
    static void promise04NoSuchTask() {
        Run run = with(task(60, 60, 60, 5, 0), task(60, 60, 60, 5, 0));
        run.section(-1, 0, 0, 1).isRefused();
        run.section(2, 0, 0, 1).isRefused();
        run.section(6, 0, 0, 1).isRefused();
        run.section(MIN, 0, 0, 1).isRefused();
        run.section(MAX, 0, 0, 1).isRefused();
        run.section(0, 0, 0, 1).is(DONE);
        run.section(1, 0, 0, 1).is(DONE);
    }

    static void promise04TheSixthTaskIsOne() {
        int[] long60 = task(60, 60, 60, 5, 0);
        Run run = with(long60, long60, long60, long60, long60, long60);
        run.section(6, 0, 0, 1).isRefused();
        run.section(5, 0, 0, 1).is(DONE);
    }

    // object 0 .. 3
    static void promise04TheObjectIsZeroToThree() {
        Run run = oneLong();
        run.section(0, -1, 0, 1).isRefused();
        run.section(0, 4, 0, 1).isRefused();
        run.section(0, MIN, 0, 1).isRefused();
        run.section(0, MAX, 0, 1).isRefused();
        run.section(0, 0, 0, 1).is(DONE);
        run.section(0, 3, 1, 1).is(DONE);
    }

    // start 0 .. 59
    static void promise04TheStartIsZeroAtLeast() {
        Run run = oneLong();
        run.section(0, 0, -1, 1).isRefused();
        run.section(0, 0, -1, 5).isRefused();
        run.section(0, 0, MIN, 1).isRefused();
        run.section(0, 0, 0, 1).is(DONE);
    }

    static void promise04TheStartIsFiftyNineAtMost() {
        Run run = oneLong();
        run.section(0, 0, 60, 1).isRefused();
        run.section(0, 0, MAX, 1).isRefused();
        run.section(0, 0, 59, 1).is(DONE);
    }

    // length 1 .. 60
    static void promise04TheLengthIsOneAtLeast() {
        Run run = oneLong();
        run.section(0, 0, 0, 0).isRefused();
        run.section(0, 0, 5, -1).isRefused();
        run.section(0, 0, 0, MIN).isRefused();
        run.section(0, 0, 0, 1).is(DONE);
    }

    static void promise04TheLengthIsSixtyAtMost() {
        Run run = oneLong();
        run.section(0, 0, 0, 61).isRefused();
        run.section(0, 0, 0, MAX).isRefused();
        run.section(0, 0, 0, 60).is(DONE);
    }

    // start + length is more than its C: REFUSED.
    static void promise04ItEndsWithTheJobAtLatest() {
        Run run = with(task(20, 10, 20, 5, 0), task(20, 20, 20, 5, 0));
        run.section(0, 0, 0, 11).isRefused();
        run.section(0, 0, 9, 2).isRefused();
        run.section(0, 0, 10, 1).isRefused();
        run.section(0, 0, 5, 6).isRefused();
        run.section(0, 0, 5, 5).is(DONE);
        run.section(1, 0, 10, 10).is(DONE);
    }

    static void promise04ASumThatWrapsAroundIsRefused() {
        Run run = oneLong();
        run.section(0, 0, MAX, MAX).isRefused();
        run.section(0, 0, 1, MAX).isRefused();
        run.section(0, 0, MAX, 60).isRefused();
        run.section(0, 0, MIN, MIN).isRefused();
    }

    static void promise04OneUnitOfOneIsTheLeastJob() {
        Run run = with(task(2, 1, 2, 5, 0));
        run.section(0, 0, 0, 2).isRefused();
        run.section(0, 0, 1, 1).isRefused();
        run.section(0, 0, 0, 1).is(DONE);
    }

    // A unit of it is in a SECTION of the task: REFUSED.
    private static Run oneInTheMiddle() {
        Run run = oneLong();
        run.section(0, 0, 10, 5).is(DONE);
        return run;
    }

    static void promise04TheSameUnitsAreRefused() {
        Run run = oneInTheMiddle();
        run.section(0, 0, 10, 5).isRefused();
        run.section(0, 1, 10, 5).isRefused();
    }

    static void promise04TheFirstUnitInCommonIsRefused() {
        Run run = oneInTheMiddle();
        run.section(0, 1, 8, 3).isRefused();
        run.section(0, 0, 10, 1).isRefused();
        run.section(0, 1, 8, 2).is(DONE);
    }

    static void promise04TheLastUnitInCommonIsRefused() {
        Run run = oneInTheMiddle();
        run.section(0, 1, 14, 3).isRefused();
        run.section(0, 0, 14, 1).isRefused();
        run.section(0, 1, 15, 3).is(DONE);
    }

    static void promise04WithinAndAroundAreRefused() {
        Run run = oneInTheMiddle();
        run.section(0, 1, 12, 1).isRefused();
        run.section(0, 1, 0, 60).isRefused();
        run.section(0, 1, 9, 7).isRefused();
    }

    static void promise04EachSectionIsLookedAt() {
        Run run = oneInTheMiddle();
        run.section(0, 1, 20, 5).is(DONE);
        run.section(0, 2, 10, 1).isRefused();
        run.section(0, 2, 24, 1).isRefused();
        run.section(0, 2, 15, 6).isRefused();
        run.section(0, 2, 15, 5).is(DONE);
    }

    static void promise04AnotherTasksUnitsAreFree() {
        Run run = with(task(60, 60, 60, 5, 0), task(60, 60, 60, 5, 0));
        run.section(0, 0, 10, 5).is(DONE);
        run.section(1, 0, 10, 5).is(DONE);
    }

    // The object's ceiling is below its priority: REFUSED.
    static void promise04TheCeilingIsAsHighAsTheTask() {
        Run run = with(task(10, 5, 10, 8, 0), task(10, 5, 10, 7, 0));
        run.ceiling(3, 7).is(DONE);
        run.section(0, 3, 0, 1).isRefused();
        run.section(1, 3, 0, 1).is(DONE);
        run.ceiling(3, 8).is(DONE);
        run.section(0, 3, 0, 1).is(DONE);
    }

    static void promise04TheCeilingOfAnotherObjectDoesNotMatter() {
        Run run = with(task(10, 5, 10, 8, 0));
        run.ceiling(0, 1).is(DONE);
        run.ceiling(2, 1).is(DONE);
        run.section(0, 1, 0, 1).is(DONE);
        run.section(0, 3, 1, 1).is(DONE);
        run.section(0, 2, 2, 1).isRefused();
    }

    // Started: REFUSED.
    static void promise04StartedIsRefused() {
        Run run = with(task(10, 5, 10, 8, 0), task(10, 5, 10, 7, 0));
        run.section(0, 0, 0, 1).is(DONE);
        run.start().is(DONE);
        run.section(0, 0, 1, 1).isRefused();
        run.section(1, 0, 0, 5).isRefused();
        run.pass(1);
        run.section(1, 0, 0, 5).isRefused();
        run.blocking(0).is(0);
    }

    // It has 3: FULL. Else DONE.
    private static Run threeSections() {
        Run run = with(task(60, 20, 60, 5, 0), task(60, 20, 60, 5, 0));
        run.section(0, 0, 0, 1).is(DONE);
        run.section(0, 0, 5, 2).is(DONE);
        run.section(0, 1, 19, 1).is(DONE);
        return run;
    }

    static void promise04TheThirdIsTakenAndTheFourthIsFull() {
        Run run = threeSections();
        run.section(0, 2, 10, 3).isFull();
        run.section(0, 0, 1, 4).isFull();
    }

    static void promise04EachTaskHasItsOwnThree() {
        Run run = threeSections();
        run.section(1, 0, 0, 1).is(DONE);
        run.section(1, 0, 1, 1).is(DONE);
        run.section(1, 0, 2, 1).is(DONE);
        run.section(1, 0, 3, 1).isFull();
    }

    static void promise04ARefusedOneIsNotCounted() {
        Run run = oneInTheMiddle();
        run.section(0, 0, 20, 5).is(DONE);
        run.section(0, 0, 20, 5).isRefused();
        run.section(0, 0, 60, 1).isRefused();
        run.section(0, 0, 30, 5).is(DONE);
    }

    // The sentence of REFUSED stands before that of FULL.
    static void promise04RefusedIsTestedBeforeFull() {
        Run run = threeSections();
        run.ceiling(3, 4).is(DONE);
        run.section(0, 4, 10, 1).isRefused();
        run.section(0, 2, -1, 1).isRefused();
        run.section(0, 2, 60, 1).isRefused();
        run.section(0, 2, 10, 0).isRefused();
        run.section(0, 2, 10, 61).isRefused();
        run.section(0, 2, 18, 3).isRefused();
        run.section(0, 2, 19, 1).isRefused();
        run.section(0, 3, 10, 1).isRefused();
        run.start().is(DONE);
        run.section(0, 2, 10, 1).isRefused();
    }

    // The units start .. start + length - 1
    static void promise04ItsUnitsAreThoseFromStartOn() {
        Run run = with(task(20, 6, 20, 1, 0), task(20, 1, 20, 9, -1));
        run.section(0, 2, 2, 3).is(DONE);
        run.blocking(1).is(3);
        run.start().is(DONE);
        int[] holder = {NONE, NONE, NONE, 0, 0, NONE};
        for (int want : holder) {
            run.holder(2).is(want);
            run.pass(1);
        }
    }

    public static void main(String[] args) {
        run(Promise04SectionTest.class);
    }
}
