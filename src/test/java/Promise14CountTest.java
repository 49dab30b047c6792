/** Promise 14: count. */
public final class Promise14CountTest extends Tests {
    // Else REFUSED.
    static void promise14AnotherWhatIsRefused() {
        Run run = started(task(10, 2, 10, 3, 1));
        run.pass(2);
        for (int what : new int[] {-1, 6, MIN, MAX}) {
            run.count(what).isRefused();
        }
        run.count(0).is(2);
        run.count(5).is(1);
    }

    // 0: the time
    static void promise14TheTime() {
        Run run = with(task(10, 2, 10, 3, 1));
        run.count(0).is(0);
        run.start().is(DONE);
        run.count(0).is(0);
        run.pass(1);
        run.count(0).is(1);
        run.pass(200);
        run.count(0).is(201);
        run.tick(201).isRefused();
        run.count(0).is(201);
    }

    static void promise14TheTimeOfAStop() {
        Run run = started(task(2, 1, 2, 1, 0), task(60, 60, 60, 9, 0));
        run.tick(200).is(16);
        run.count(0).is(16);
        run.tick(200).isFull();
        run.count(0).is(16);
    }

    // 1: IDLE UNITS
    static void promise14IdleUnits() {
        Run run = started(task(10, 2, 10, 3, 1));
        int[] idle = {0, 1, 1, 1, 2, 3};
        for (int want : idle) {
            run.count(1).is(want);
            run.pass(1);
        }
        run.pass(194);
        run.count(1).is(160);
    }

    static void promise14NoIdleUnitOnAFullProcessor() {
        Run run = started(task(2, 2, 2, 3, 0));
        run.pass(200);
        run.count(1).is(0);
    }

    static void promise14AllUnitsMayBeIdle() {
        Run run = started(task(2, 2, 2, 3, -1));
        run.pass(200);
        run.count(1).is(200);
        run.count(2).is(0);
    }

    // 2: SWITCHES (the first one counts)
    static void promise14TheFirstUnitThatIsNotIdleIsASwitch() {
        Run run = started(task(10, 2, 10, 3, 1));
        run.pass(1);
        run.count(2).is(0);
        run.pass(1);
        run.count(2).is(1);
        run.pass(1);
        run.count(2).is(1);
    }

    static void promise14AnotherTaskIsASwitch() {
        Run run = started(task(10, 3, 10, 3, 0), task(10, 1, 10, 5, 1));
        int[] switches = {0, 1, 2, 3, 3};
        for (int want : switches) {
            run.count(2).is(want);
            run.pass(1);
        }
    }

    static void promise14TheSameTaskAfterIdleUnitsIsNoSwitch() {
        Run run = started(task(10, 1, 10, 3, 0));
        run.pass(50);
        run.count(2).is(1);
    }

    static void promise14AnotherTaskAfterIdleUnitsIsASwitch() {
        Run run = started(task(20, 1, 20, 3, 0), task(20, 1, 20, 3, 10));
        run.pass(10);
        run.count(2).is(1);
        run.pass(1);
        run.count(2).is(2);
        run.pass(10);
        run.count(2).is(3);
    }

    static void promise14AnotherJobOfTheSameTaskIsNoSwitch() {
        Run run = started(task(2, 2, 2, 3, 0));
        run.pass(20);
        run.count(2).is(1);
    }

    // 3: tasks
    static void promise14Tasks() {
        Run run = new Run();
        for (int tasks = 0; tasks < 6; tasks++) {
            run.count(3).is(tasks);
            run.define(1, 1, 1, 1, 0).isRefused();
            run.count(3).is(tasks);
            run.define(60, 1, 60, 1, -1).is(tasks);
        }
        run.count(3).is(6);
        run.define(60, 1, 60, 1, -1).isFull();
        run.count(3).is(6);
        run.start().is(DONE);
        run.count(3).is(6);
    }

    // 4: jobs that are not done
    static void promise14JobsThatAreNotDone() {
        Run run = started(task(10, 2, 10, 3, 1), task(10, 1, 10, 5, -1));
        run.count(4).is(0);
        run.pass(1);
        run.count(4).is(0);
        run.pass(1);
        run.count(4).is(1);
        run.event(1).is(DONE);
        run.count(4).is(2);
        run.pass(1);
        run.count(4).is(1);
        run.pass(1);
        run.count(4).is(0);
    }

    static void promise14WaitingJobsOfAllTasks() {
        Run run = started(task(20, 20, 20, 9, 0), task(5, 1, 5, 1, 0), task(5, 1, 5, 1, -1));
        run.event(2).is(DONE);
        run.pass(12);
        run.count(4).is(5);
    }

    static void promise14EightOfEachTask() {
        int[] starved = task(3, 1, 3, 1, 1);
        Run run = started(task(2, 2, 2, 9, 0), starved, starved, starved, starved, starved);
        run.tick(200).is(25);
        run.count(4).is(1 + 5 * 8);
    }

    // 5: 1 if every task has a BOUND and none is above its D, else 0
    static void promise14JustItsDeadlineIsNotAbove() {
        Run run = with(task(10, 2, 2, 9, 0), task(20, 3, 5, 5, 0));
        run.count(5).is(1);
    }

    static void promise14OneAboveItsDeadlineIsZero() {
        Run run = with(task(10, 2, 2, 9, 0), task(20, 3, 4, 5, 0));
        run.count(5).is(0);
        run = with(task(20, 3, 4, 5, 0), task(10, 2, 2, 9, 0));
        run.count(5).is(0);
        run = with(task(10, 2, 1, 9, 0), task(20, 3, 5, 5, 0));
        run.count(5).is(0);
    }

    static void promise14ATaskWithoutABoundIsZero() {
        for (int place = 0; place < 3; place++) {
            int[][] profiles = new int[3][];
            profiles[place] = task(4, 2, 4, 5, 0);
            profiles[(place + 1) % 3] = task(4, 2, 4, 9, 0);
            profiles[(place + 2) % 3] = task(4, 1, 4, 10, 0);
            with(profiles).count(5).is(0);
        }
    }

    static void promise14BlockingCountsToo() {
        Run run = with(task(10, 2, 2, 9, 0), task(20, 3, 5, 5, 0));
        run.section(1, 0, 0, 1).is(DONE);
        run.count(5).is(0);
        run = with(task(10, 2, 3, 9, 0), task(20, 3, 5, 5, 0));
        run.section(1, 0, 0, 1).is(DONE);
        run.count(5).is(1);
    }

    static void promise14WithoutTasksItIsOne() {
        new Run().count(5).is(1);
    }

    static void promise14ItIsTheSameAfterStart() {
        Run good = started(task(10, 2, 2, 9, 0));
        good.pass(30);
        good.count(5).is(1);
        Run bad = started(task(10, 2, 1, 9, 0));
        bad.pass(30);
        bad.count(5).is(0);
    }

    public static void main(String[] args) {
        run(Promise14CountTest.class);
    }
}
