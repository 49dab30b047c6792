/** Promise 11: blocking. */
public final class Promise11BlockingTest extends Tests {
    // REFUSED if there is no such task
    static void promise11NoSuchTaskIsRefused() {
        Run run = with(task(60, 20, 60, 2, 0), task(60, 20, 60, 4, 0));
        for (int task : new int[] {-1, 2, 6, MIN, MAX}) {
            run.blocking(task).isRefused();
        }
        run.blockings(0, 0);
        run.start().is(DONE);
        run.blocking(-1).isRefused();
        run.blocking(2).isRefused();
    }

    static void promise11TheSixthTaskIsOne() {
        int[] low = task(60, 20, 60, 2, 0);
        Run run = with(low, low, low, low, low, task(60, 20, 60, 4, 0));
        run.section(4, 0, 0, 7).is(DONE);
        run.blocking(5).is(7);
        run.blocking(6).isRefused();
    }

    // 0 if there is none
    static void promise11NoneIsZero() {
        Run run = with(task(60, 20, 60, 2, 0));
        run.blocking(0).is(0);
        run.define(60, 20, 60, 4, 0).is(1);
        run.blockings(0, 0);
    }

    // a task with a lower priority than i's
    static void promise11ALowerPriorityBlocks() {
        Run run = with(task(60, 20, 60, 4, 0), task(60, 20, 60, 3, 0));
        run.section(1, 0, 0, 9).is(DONE);
        run.blockings(9, 0);
    }

    static void promise11AnEqualPriorityDoesNotBlock() {
        Run run = with(task(60, 20, 60, 4, 0), task(60, 20, 60, 4, 0));
        run.section(1, 0, 0, 9).is(DONE);
        run.blockings(0, 0);
    }

    static void promise11AHigherPriorityDoesNotBlock() {
        Run run = with(task(60, 20, 60, 4, 0), task(60, 20, 60, 5, 0));
        run.section(1, 0, 0, 9).is(DONE);
        run.blockings(0, 0);
    }

    static void promise11ItsOwnSectionDoesNotBlock() {
        Run run = with(task(60, 20, 60, 4, 0));
        run.section(0, 0, 0, 9).is(DONE);
        run.blocking(0).is(0);
    }

    // an object whose ceiling is not below i's priority
    static void promise11AnEqualCeilingBlocks() {
        Run run = with(task(60, 20, 60, 6, 0), task(60, 20, 60, 3, 0));
        run.ceiling(2, 6).is(DONE);
        run.section(1, 2, 0, 9).is(DONE);
        run.blocking(0).is(9);
    }

    static void promise11ALowerCeilingDoesNotBlock() {
        Run run = with(task(60, 20, 60, 6, 0), task(60, 20, 60, 3, 0));
        run.ceiling(2, 5).is(DONE);
        run.section(1, 2, 0, 9).is(DONE);
        run.blocking(0).is(0);
        run.ceiling(2, 7).is(DONE);
        run.blocking(0).is(9);
    }

    static void promise11TheCeilingIsThatOfTheSectionsObject() {
        Run run = with(task(60, 20, 60, 6, 0), task(60, 20, 60, 3, 0));
        run.ceiling(1, 3).is(DONE);
        run.section(1, 1, 0, 9).is(DONE);
        run.section(1, 2, 9, 4).is(DONE);
        run.blocking(0).is(4);
    }

    static void promise11ItNeedNotUseTheObjectItself() {
        Run run = with(task(60, 20, 60, 10, 0), task(60, 20, 60, 1, -1));
        run.section(1, 3, 5, 2).is(DONE);
        run.blocking(0).is(2);
    }

    // the greatest length of a SECTION
    static void promise11TheLongestOfATaskCountsInAnyPlace() {
        for (int place = 0; place < 3; place++) {
            Run run = with(task(60, 20, 60, 6, 0), task(60, 20, 60, 3, 0));
            for (int s = 0; s < 3; s++) {
                run.section(1, s, 5 * s, s == place ? 5 : 2).is(DONE);
            }
            run.blocking(0).is(5);
        }
    }

    static void promise11TheLongestOfAllTasksCountsInAnyPlace() {
        for (int place = 1; place < 4; place++) {
            Run run = with(task(60, 20, 60, 6, 0), task(60, 20, 60, 3, 0), task(60, 20, 60, 4, 0), task(60, 20, 60, 5, 0));
            for (int task = 1; task < 4; task++) {
                run.section(task, 0, 0, task == place ? 5 : 2).is(DONE);
            }
            run.blocking(0).is(5);
        }
    }

    static void promise11TheLeastAndTheGreatestLength() {
        Run run = with(task(60, 1, 60, 6, 0), task(60, 60, 60, 3, 0), task(60, 1, 60, 2, 0));
        run.section(2, 0, 0, 1).is(DONE);
        run.blockings(1, 1, 0);
        run.section(1, 0, 0, 60).is(DONE);
        run.blockings(60, 1, 0);
    }

    // So it is before and after start.
    static void promise11BeforeAndAfterStart() {
        Run run = with(
            task(60, 20, 60, 2, 0), task(60, 20, 60, 4, 0), task(60, 20, 60, 4, 0), task(60, 20, 60, 6, -1),
            task(60, 9, 60, 9, -1));
        run.ceiling(0, 4).is(DONE);
        run.ceiling(1, 6).is(DONE);
        run.section(0, 0, 0, 9).is(DONE);
        run.section(0, 1, 9, 3).is(DONE);
        run.section(1, 1, 0, 5).is(DONE);
        run.section(2, 3, 0, 1).is(DONE);
        run.blockings(0, 9, 9, 5, 1);
        run.start().is(DONE);
        run.blockings(0, 9, 9, 5, 1);
        run.pass(10);
        run.blockings(0, 9, 9, 5, 1);
    }

    public static void main(String[] args) {
        run(Promise11BlockingTest.class);
    }
}
