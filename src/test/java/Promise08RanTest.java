/** Promise 8: ran. */
public final class Promise08RanTest extends Tests {
    // NONE if there was none
    static void promise08NoneBeforeTheFirstUnit() {
        Run run = new Run();
        run.ran().is(NONE);
        run.define(10, 2, 10, 3, 0).is(0);
        run.ran().is(NONE);
        run.start().is(DONE);
        run.ran().is(NONE);
        run.pass(1);
        run.ran().is(0);
    }

    // NONE if it was IDLE
    static void promise08NoneAfterAnIdleUnit() {
        Run run = started(task(10, 1, 10, 3, 1));
        run.pass(1);
        run.ran().is(NONE);
        run.pass(1);
        run.ran().is(0);
        run.pass(1);
        run.ran().is(NONE);
    }

    // The task that RAN in the last UNIT
    static void promise08TheTaskOfTheLastUnit() {
        Run run = started(task(10, 2, 10, 3, 1), task(10, 1, 10, 5, 2));
        int[] tasks = {NONE, 0, 1, 0, NONE};
        for (int task : tasks) {
            run.pass(1);
            run.ran().is(task);
        }
    }

    static void promise08TheLastOfSeveralUnits() {
        Run run = started(task(10, 2, 10, 3, 1), task(10, 1, 10, 5, 2));
        run.pass(3);
        run.ran().is(1);
        run.pass(200);
        run.ran().is(1);
    }

    static void promise08TheSixthTask() {
        int[] small = task(30, 1, 30, 1, 0);
        Run run = started(small, small, small, small, small, small);
        run.pass(6);
        run.ran().is(5);
    }

    static void promise08ARefusedTickLeavesIt() {
        Run run = started(task(10, 1, 10, 3, 0));
        run.pass(1);
        run.tick(0).isRefused();
        run.tick(201).isRefused();
        run.ran().is(0);
    }

    static void promise08AFullTickLeavesIt() {
        Run run = started(task(2, 1, 2, 1, 0), task(60, 60, 60, 9, 0));
        run.tick(200).is(16);
        run.tick(1).isFull();
        run.ran().is(1);
    }

    static void promise08AskingLeavesIt() {
        Run run = started(task(10, 1, 10, 3, 0));
        run.pass(1);
        run.ran().is(0);
        run.ran().is(0);
    }

    static void promise08AnEventLeavesIt() {
        Run run = started(task(10, 1, 10, 3, 0), task(10, 1, 10, 9, -1));
        run.pass(1);
        run.event(1).is(DONE);
        run.ran().is(0);
    }

    public static void main(String[] args) {
        run(Promise08RanTest.class);
    }
}
