/** Promise 3: ceiling. */
public final class Promise03CeilingTest extends Tests {
    // object 0 .. 3
    static void promise03TheObjectIsZeroAtLeast() {
        Run run = with(task(10, 3, 10, 4, 0));
        run.ceiling(-1, 5).isRefused();
        run.ceiling(MIN, 5).isRefused();
        run.ceiling(0, 5).is(DONE);
    }

    static void promise03TheObjectIsThreeAtMost() {
        Run run = with(task(10, 3, 10, 4, 0));
        run.ceiling(4, 5).isRefused();
        run.ceiling(MAX, 5).isRefused();
        run.ceiling(3, 5).is(DONE);
    }

    // Sets the ceiling, 1 .. 10
    static void promise03TheCeilingIsOneAtLeast() {
        Run run = with(task(10, 3, 10, 1, 0), task(10, 3, 10, 2, 0));
        run.ceiling(0, 0).isRefused();
        run.ceiling(0, -1).isRefused();
        run.ceiling(0, MIN).isRefused();
        run.ceiling(0, 1).is(DONE);
        run.section(1, 0, 0, 1).isRefused();
        run.section(0, 0, 0, 1).is(DONE);
    }

    static void promise03TheCeilingIsTenAtMost() {
        Run run = with(task(10, 3, 10, 10, 0));
        run.ceiling(0, 9).is(DONE);
        run.ceiling(0, 11).isRefused();
        run.ceiling(0, MAX).isRefused();
        run.section(0, 0, 0, 1).isRefused();
        run.ceiling(0, 10).is(DONE);
        run.section(0, 0, 0, 1).is(DONE);
    }

    static void promise03TheLastOneSetCounts() {
        Run run = with(task(10, 3, 10, 4, 0));
        run.ceiling(0, 3).is(DONE);
        run.section(0, 0, 0, 1).isRefused();
        run.ceiling(0, 4).is(DONE);
        run.ceiling(0, 4).is(DONE);
        run.section(0, 0, 0, 2).is(DONE);
        run.ceiling(0, 7).is(DONE);
        run.start().is(DONE);
        run.pass(1);
        run.tell(0, 5).is(7);
    }

    static void promise03TheOtherObjectsKeepTheirs() {
        for (int low = 0; low < 4; low++) {
            Run run = with(task(10, 4, 10, 5, 0));
            run.ceiling(low, 4).is(DONE);
            run.section(0, low, 0, 1).isRefused();
            for (int other = 1; other < 4; other++) {
                run.section(0, (low + other) % 4, other, 1).is(DONE);
            }
        }
    }

    static void promise03ItMayBeSetWithoutTasks() {
        Run run = new Run();
        run.ceiling(2, 1).is(DONE);
        run.define(10, 3, 10, 2, 0).is(0);
        run.section(0, 2, 0, 1).isRefused();
    }

    // Started: REFUSED.
    static void promise03StartedIsRefused() {
        Run run = with(task(10, 3, 10, 4, 0));
        run.ceiling(0, 6).is(DONE);
        run.section(0, 0, 0, 3).is(DONE);
        run.start().is(DONE);
        run.ceiling(0, 7).isRefused();
        run.ceiling(0, 6).isRefused();
        run.ceiling(1, 10).isRefused();
        run.pass(1);
        run.ceiling(0, 10).isRefused();
        run.tell(0, 5).is(6);
    }

    // A task with a SECTION on it has a higher priority: REFUSED.
    static void promise03ItIsNotBelowItsUser() {
        Run run = with(task(10, 6, 10, 4, 0));
        run.section(0, 0, 0, 2).is(DONE);
        run.ceiling(0, 3).isRefused();
        run.ceiling(0, 1).isRefused();
        run.ceiling(0, 4).is(DONE);
        run.ceiling(0, 3).isRefused();
    }

    static void promise03EachUserCounts() {
        for (int high = 0; high < 3; high++) {
            Run run = with(
                task(10, 6, 10, high == 0 ? 7 : 4, 0), task(10, 6, 10, high == 1 ? 7 : 4, 0),
                task(10, 6, 10, high == 2 ? 7 : 4, 0));
            for (int task = 0; task < 3; task++) {
                run.section(task, 1, 0, 2).is(DONE);
            }
            run.ceiling(1, 6).isRefused();
            run.ceiling(1, 7).is(DONE);
        }
    }

    static void promise03EachSectionOfAUserCounts() {
        for (int place = 0; place < 3; place++) {
            Run run = with(task(10, 6, 10, 7, 0));
            for (int s = 0; s < 3; s++) {
                run.section(0, s == place ? 2 : 0, s, 1).is(DONE);
            }
            run.ceiling(2, 6).isRefused();
            run.ceiling(2, 7).is(DONE);
        }
    }

    static void promise03ATaskThatDoesNotUseItDoesNotCount() {
        Run run = with(task(10, 6, 10, 9, 0), task(10, 6, 10, 3, 0));
        run.section(0, 1, 0, 2).is(DONE);
        run.section(1, 0, 0, 2).is(DONE);
        run.ceiling(2, 1).is(DONE);
        run.ceiling(0, 2).isRefused();
        run.ceiling(0, 3).is(DONE);
        run.ceiling(1, 8).isRefused();
    }

    static void promise03ARefusedSectionIsNoUse() {
        Run run = with(task(10, 6, 10, 9, 0));
        run.section(0, 0, 5, 2).isRefused();
        run.ceiling(0, 1).is(DONE);
        run.section(0, 0, 0, 2).isRefused();
        run.ceiling(0, 1).is(DONE);
    }

    public static void main(String[] args) {
        run(Promise03CeilingTest.class);
    }
}
