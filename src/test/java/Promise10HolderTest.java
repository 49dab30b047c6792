/** Promise 10: holder. */
public final class Promise10HolderTest extends Tests {
    // REFUSED for another object
    static void promise10AnotherObjectIsRefused() {
        Run run = started(task(30, 8, 30, 2, 0));
        for (int object : new int[] {-1, 4, MIN, MAX}) {
            run.holder(object).isRefused();
        }
        run.holder(0).is(NONE);
        run.holder(3).is(NONE);
    }

    // NONE if none does
    static void promise10NoneWithoutTasksOrJobs() {
        Run run = new Run();
        run.holders(NONE, NONE, NONE, NONE);
        run.define(30, 8, 30, 2, 1).is(0);
        run.section(0, 0, 0, 8).is(DONE);
        run.holders(NONE, NONE, NONE, NONE);
        run.start().is(DONE);
        run.pass(1);
        run.holders(NONE, NONE, NONE, NONE);
    }

    // The task whose FRONT HOLDS object 0 .. 3
    static void promise10EachObjectIsHeld() {
        for (int object = 0; object < 4; object++) {
            Run run = with(task(30, 8, 30, 2, 0));
            run.section(0, object, 0, 2).is(DONE);
            run.start().is(DONE);
            run.pass(1);
            for (int other = 0; other < 4; other++) {
                run.holder(other).is(other == object ? 0 : NONE);
            }
        }
    }

    static void promise10TheSixthTaskHolds() {
        int[] calm = task(60, 1, 60, 1, -1);
        Run run = with(calm, calm, calm, calm, calm, task(60, 3, 60, 1, 0));
        run.section(5, 2, 0, 2).is(DONE);
        run.start().is(DONE);
        run.pass(1);
        run.holders(NONE, NONE, 5, NONE);
    }

    // HOLDS an object if the unit e USES it and e is not the start of that SECTION
    static void promise10ItIsHeldAfterTheFirstUnitAndBeforeTheLast() {
        Run run = with(task(30, 8, 30, 2, 0));
        run.section(0, 1, 2, 4).is(DONE);
        run.start().is(DONE);
        int[] holders = {NONE, NONE, NONE, 0, 0, 0, NONE, NONE, NONE};
        for (int want : holders) {
            run.holder(1).is(want);
            run.pass(1);
        }
    }

    static void promise10ASectionOfOneUnitIsNeverHeld() {
        Run run = with(task(30, 3, 30, 2, 0));
        run.section(0, 1, 0, 1).is(DONE);
        run.section(0, 1, 1, 1).is(DONE);
        run.section(0, 1, 2, 1).is(DONE);
        run.start().is(DONE);
        for (int t = 0; t < 5; t++) {
            run.holder(1).is(NONE);
            run.pass(1);
        }
    }

    static void promise10ASectionOfTwoUnitsIsHeldOnce() {
        Run run = with(task(30, 4, 30, 2, 0));
        run.section(0, 1, 1, 2).is(DONE);
        run.start().is(DONE);
        int[] holders = {NONE, NONE, 0, NONE, NONE};
        for (int want : holders) {
            run.holder(1).is(want);
            run.pass(1);
        }
    }

    static void promise10TheLongestSection() {
        Run run = with(task(60, 60, 60, 2, 0));
        run.section(0, 0, 0, 60).is(DONE);
        run.start().is(DONE);
        run.pass(1);
        run.holder(0).is(0);
        run.pass(58);
        run.holder(0).is(0);
        run.pass(1);
        run.holder(0).is(NONE);
        run.pass(1);
        run.holder(0).is(0);
    }

    static void promise10OneSectionAfterAnotherOnTheSameObject() {
        Run run = with(task(30, 6, 30, 2, 0));
        run.section(0, 1, 0, 3).is(DONE);
        run.section(0, 1, 3, 3).is(DONE);
        run.start().is(DONE);
        int[] holders = {NONE, 0, 0, NONE, 0, 0, NONE};
        for (int want : holders) {
            run.holder(1).is(want);
            run.pass(1);
        }
    }

    static void promise10OneSectionAfterAnotherOnAnotherObject() {
        Run run = with(task(30, 6, 30, 2, 0));
        run.section(0, 3, 3, 3).is(DONE);
        run.section(0, 0, 0, 3).is(DONE);
        run.start().is(DONE);
        int[] first = {NONE, 0, 0, NONE, NONE, NONE, NONE};
        int[] second = {NONE, NONE, NONE, NONE, 0, 0, NONE};
        for (int t = 0; t < first.length; t++) {
            run.holder(0).is(first[t]);
            run.holder(3).is(second[t]);
            run.pass(1);
        }
    }

    static void promise10AFrontThatWaitsHoldsOn() {
        Run run = with(task(30, 4, 30, 2, 0), task(30, 4, 30, 7, 2));
        run.ceiling(0, 6).is(DONE);
        run.section(0, 0, 1, 2).is(DONE);
        run.section(1, 1, 0, 3).is(DONE);
        run.start().is(DONE);
        run.pass(2);
        run.holders(0, NONE, NONE, NONE);
        run.pass(1);
        run.ran().is(1);
        run.holders(0, 1, NONE, NONE);
        run.pass(2);
        run.holders(0, NONE, NONE, NONE);
        run.pass(1);
        run.holders(0, NONE, NONE, NONE);
        run.pass(1);
        run.ran().is(0);
        run.holders(NONE, NONE, NONE, NONE);
    }

    static void promise10AJobBehindTheFrontHoldsNothing() {
        Run run = with(task(4, 2, 4, 2, 0), task(60, 6, 60, 9, 1));
        run.ceiling(0, 3).is(DONE);
        run.section(0, 0, 0, 2).is(DONE);
        run.start().is(DONE);
        run.pass(7);
        run.tell(0, 0).is(2);
        run.holder(0).is(0);
        run.pass(1);
        run.tell(0, 1).is(1);
        run.holder(0).is(NONE);
    }

    public static void main(String[] args) {
        run(Promise10HolderTest.class);
    }
}
