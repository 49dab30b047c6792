/** Promise 5: start. */
public final class Promise05StartTest extends Tests {
    // No tasks: REFUSED.
    static void promise05NoTasksIsRefused() {
        Run run = new Run();
        run.start().isRefused();
        run.define(1, 1, 1, 1, 0).isRefused();
        run.start().isRefused();
        run.tick(1).isRefused();
        run.define(4, 1, 4, 1, 0).is(0);
        run.ceiling(0, 5).is(DONE);
        run.section(0, 0, 0, 1).is(DONE);
        run.start().is(DONE);
    }

    // Starts: DONE.
    static void promise05OneTaskIsEnough() {
        Run run = with(task(4, 1, 4, 1, -1));
        run.tick(1).isRefused();
        run.start().is(DONE);
        run.pass(1);
    }

    static void promise05SixTasksStart() {
        int[] small = task(30, 1, 30, 1, 0);
        Run run = started(small, small, small, small, small, small);
        run.pass(6);
        run.timelines(0, 0, 1, 2, 3, 4, 5);
    }

    static void promise05NoTimePassesAndNothingIsReleased() {
        Run run = started(task(4, 1, 4, 1, 0));
        run.count(0).is(0);
        run.count(4).is(0);
        run.ran().is(NONE);
        run.tells(0, 0, 0, 0, 0, NONE, NONE, NONE);
    }

    // Started already: REFUSED.
    static void promise05StartedAlreadyIsRefused() {
        Run run = started(task(4, 2, 4, 1, 0));
        run.start().isRefused();
        run.pass(5);
        run.start().isRefused();
        run.count(0).is(5);
        run.tell(0, 0).is(2);
    }

    static void promise05StoppedForGoodIsRefused() {
        Run run = started(task(2, 1, 2, 1, 0), task(60, 60, 60, 9, 0));
        run.tick(200).is(16);
        run.start().isRefused();
        run.tick(1).isFull();
    }

    public static void main(String[] args) {
        run(Promise05StartTest.class);
    }
}
