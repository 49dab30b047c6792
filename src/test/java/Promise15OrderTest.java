/** Promise 15: Order and limits, with what the terms say of all calls. */
public final class Promise15OrderTest extends Tests {
    private static Run sixTasks() {
        int[] small = task(4, 1, 4, 1, 0);
        return with(small, small, small, small, small, task(4, 1, 4, 1, -1));
    }

    // define tests REFUSED before FULL.
    static void promise15AWrongPeriodBeforeFull() {
        Run run = sixTasks();
        run.define(1, 1, 1, 1, 0).isRefused();
        run.define(61, 1, 4, 1, 0).isRefused();
        run.define(4, 1, 4, 1, 0).isFull();
    }

    static void promise15AWrongCostBeforeFull() {
        Run run = sixTasks();
        run.define(4, 0, 4, 1, 0).isRefused();
        run.define(4, 5, 4, 1, 0).isRefused();
        run.define(4, 4, 4, 1, 0).isFull();
    }

    static void promise15AWrongDeadlineBeforeFull() {
        Run run = sixTasks();
        run.define(4, 1, 0, 1, 0).isRefused();
        run.define(4, 1, 5, 1, 0).isRefused();
        run.define(4, 1, 1, 1, 0).isFull();
    }

    static void promise15AWrongPriorityBeforeFull() {
        Run run = sixTasks();
        run.define(4, 1, 4, 0, 0).isRefused();
        run.define(4, 1, 4, 11, 0).isRefused();
        run.define(4, 1, 4, 10, 0).isFull();
    }

    static void promise15AWrongOffsetBeforeFull() {
        Run run = sixTasks();
        run.define(4, 1, 4, 1, -2).isRefused();
        run.define(4, 1, 4, 1, 60).isRefused();
        run.define(4, 1, 4, 1, -1).isFull();
        run.define(4, 1, 4, 1, 59).isFull();
    }

    static void promise15StartedBeforeFull() {
        Run run = sixTasks();
        run.start().is(DONE);
        run.define(4, 1, 4, 1, 0).isRefused();
        run.define(1, 1, 4, 1, 0).isRefused();
    }

    // An object is used for at most 512 calls.
    static void promise15The512thCallIsStillAsDue() {
        Run run = started(task(60, 60, 60, 10, 0), task(60, 1, 1, 1, -1));
        for (int call = 4; call < 511; call++) {
            run.tick(200).is(200);
        }
        run.count(0).is(507 * 200);
        run.timeline(507 * 200 - 1).is(0);
    }

    static void promise15AllJobsOfALongRunAreCounted() {
        Run run = started(task(2, 1, 1, 10, 0));
        for (int call = 3; call < 508; call++) {
            run.tick(200).is(200);
        }
        run.tells(0, 505 * 100, 505 * 100, 0, 1);
    }

    // In every call numbers out of their ranges are REFUSED.
    static void promise15TheFarthestNumbersAreRefusedInEveryCall() {
        Run run = with(task(10, 5, 10, 3, -1), task(10, 5, 10, 3, 0));
        int[] far = {MIN, MAX, -1000, 1000};
        for (int started = 0; started < 2; started++) {
            for (int n : far) {
                run.define(n, n, n, n, n).isRefused();
                run.ceiling(n, n).isRefused();
                run.section(n, n, n, n).isRefused();
                run.event(n).isRefused();
                run.tick(n).isRefused();
                run.tell(n, n).isRefused();
                run.holder(n).isRefused();
                run.blocking(n).isRefused();
                run.bound(n).isRefused();
                run.timeline(n).isRefused();
                run.count(n).isRefused();
            }
            if (started == 0) {
                run.start().is(DONE);
                run.pass(3);
            }
        }
    }

    static void promise15AskingChangesNothing() {
        Run run = with(task(10, 5, 3, 3, -1), task(10, 5, 10, 2, 0));
        run.section(1, 0, 0, 5).is(DONE);
        run.start().is(DONE);
        run.pass(3);
        run.event(0).is(DONE);
        for (int again = 0; again < 2; again++) {
            run.ran().is(1);
            run.tells(0, 1, 0, 0, 0, 0, 3, 3);
            run.tells(1, 1, 0, 0, 0, 3, 10, 0);
            run.holders(1, NONE, NONE, NONE);
            run.blockings(5, 0);
            run.bound(0).is(10);
            run.bound(1).is(10);
            run.timelines(0, 1, 1, 1);
            run.count(2).is(1);
            run.count(5).is(0);
        }
        run.count(6).isRefused();
    }

    public static void main(String[] args) {
        run(Promise15OrderTest.class);
    }
}
