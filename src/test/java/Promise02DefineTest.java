/** Promise 2: define. */
public final class Promise02DefineTest extends Tests {
    // T 2 .. 60
    static void promise02ThePeriodIsTwoAtLeast() {
        Run run = new Run();
        run.define(1, 1, 1, 1, 0).isRefused();
        run.define(0, 0, 0, 1, 0).isRefused();
        run.define(-2, -2, -2, 1, 0).isRefused();
        run.define(MIN, 1, 1, 1, 0).isRefused();
        run.define(2, 1, 1, 1, 0).is(0);
    }

    static void promise02ThePeriodIsSixtyAtMost() {
        Run run = new Run();
        run.define(61, 1, 1, 1, 0).isRefused();
        run.define(MAX, 1, 1, 1, 0).isRefused();
        run.define(60, 1, 1, 1, 0).is(0);
    }

    // C 1 .. T
    static void promise02TheCostIsOneAtLeast() {
        Run run = new Run();
        run.define(9, 0, 1, 1, 0).isRefused();
        run.define(9, -1, 1, 1, 0).isRefused();
        run.define(9, MIN, 1, 1, 0).isRefused();
        run.define(9, 1, 1, 1, 0).is(0);
    }

    static void promise02TheCostIsThePeriodAtMost() {
        Run run = new Run();
        run.define(2, 3, 1, 1, 0).isRefused();
        run.define(9, 10, 1, 1, 0).isRefused();
        run.define(60, 61, 1, 1, 0).isRefused();
        run.define(9, MAX, 1, 1, 0).isRefused();
        run.define(2, 2, 1, 1, 0).is(0);
        run.define(9, 9, 1, 1, 0).is(1);
        run.define(60, 60, 1, 1, 0).is(2);
    }

    // D 1 .. T
    static void promise02TheDeadlineIsOneAtLeast() {
        Run run = new Run();
        run.define(9, 1, 0, 1, 0).isRefused();
        run.define(9, 1, -1, 1, 0).isRefused();
        run.define(9, 1, MIN, 1, 0).isRefused();
        run.define(9, 1, 1, 1, 0).is(0);
    }

    static void promise02TheDeadlineIsThePeriodAtMost() {
        Run run = new Run();
        run.define(2, 1, 3, 1, 0).isRefused();
        run.define(9, 1, 10, 1, 0).isRefused();
        run.define(60, 1, 61, 1, 0).isRefused();
        run.define(9, 1, MAX, 1, 0).isRefused();
        run.define(2, 1, 2, 1, 0).is(0);
        run.define(9, 1, 9, 1, 0).is(1);
        run.define(60, 1, 60, 1, 0).is(2);
    }

    static void promise02TheDeadlineMayBeBelowTheCost() {
        new Run().define(60, 60, 1, 1, 0).is(0);
    }

    // priority 1 .. 10
    static void promise02ThePriorityIsOneAtLeast() {
        Run run = new Run();
        run.define(9, 1, 1, 0, 0).isRefused();
        run.define(9, 1, 1, -1, 0).isRefused();
        run.define(9, 1, 1, MIN, 0).isRefused();
        run.define(9, 1, 1, 1, 0).is(0);
    }

    static void promise02ThePriorityIsTenAtMost() {
        Run run = new Run();
        run.define(9, 1, 1, 11, 0).isRefused();
        run.define(9, 1, 1, MAX, 0).isRefused();
        run.define(9, 1, 1, 10, 0).is(0);
    }

    // offset 0 .. 59, or -1 for a sporadic one
    static void promise02TheOffsetIsMinusOneAtLeast() {
        Run run = new Run();
        run.define(9, 1, 1, 1, -2).isRefused();
        run.define(9, 1, 1, 1, MIN).isRefused();
        run.define(9, 1, 1, 1, -1).is(0);
        run.define(9, 1, 1, 1, 0).is(1);
    }

    static void promise02TheOffsetIsFiftyNineAtMost() {
        Run run = new Run();
        run.define(9, 1, 1, 1, 60).isRefused();
        run.define(60, 1, 1, 1, 60).isRefused();
        run.define(9, 1, 1, 1, MAX).isRefused();
        run.define(9, 1, 1, 1, 59).is(0);
        run.define(2, 1, 1, 1, 59).is(1);
    }

    static void promise02MinusOneIsSporadicAndZeroIsNot() {
        Run run = started(task(9, 1, 9, 1, -1), task(9, 1, 9, 1, 0));
        run.pass(20);
        run.tell(0, 0).is(0);
        run.tell(1, 0).is(3);
        run.event(0).is(DONE);
        run.event(1).isRefused();
    }

    // Started: REFUSED.
    static void promise02StartedIsRefused() {
        Run run = with(task(10, 1, 10, 5, 0));
        run.define(10, 1, 10, 5, 0).is(1);
        run.start().is(DONE);
        run.define(10, 1, 10, 5, 0).isRefused();
        run.pass(3);
        run.define(2, 1, 1, 1, -1).isRefused();
        run.count(3).is(2);
    }

    // 6 tasks: FULL. Else its number.
    static void promise02TheSixthIsTakenAndTheSeventhIsFull() {
        Run run = new Run();
        for (int task = 0; task < 6; task++) {
            run.count(3).is(task);
            run.define(10 + task, 1, 10, 5, 0).is(task);
        }
        run.define(10, 1, 10, 5, 0).isFull();
        run.define(60, 60, 60, 10, -1).isFull();
        run.count(3).is(6);
    }

    static void promise02ARefusedTaskTakesNoNumber() {
        Run run = with(task(10, 1, 10, 5, 0));
        run.define(10, 11, 10, 5, 0).isRefused();
        run.count(3).is(1);
        run.define(10, 1, 10, 5, 0).is(1);
    }

    // Defines a task.
    static void promise02TheGreatestProfileIsKept() {
        Run run = started(task(60, 60, 60, 10, 59));
        run.bound(0).is(60);
        run.count(5).is(1);
        run.pass(60);
        run.tells(0, 1, 0, 0, 0, 1, 10, 59);
        run.timelines(58, NONE, 0);
        run.pass(58);
        run.tells(0, 1, 0, 0, 0, 59, 10, 59);
        run.pass(1);
        run.tells(0, 1, 1, 0, 60, NONE, NONE, NONE);
        run.pass(1);
        run.tells(0, 2, 1, 0, 60, 1, 10, 119);
    }

    static void promise02TheLeastProfileIsKept() {
        Run run = started(task(2, 1, 1, 1, 0));
        run.bound(0).is(1);
        run.count(5).is(1);
        run.pass(1);
        run.tells(0, 1, 1, 0, 1, NONE, NONE, NONE);
        run.pass(1);
        run.tells(0, 1, 1, 0, 1, NONE, NONE, NONE);
        run.pass(3);
        run.tells(0, 3, 3, 0, 1, NONE, NONE, NONE);
        run.timelines(0, 0, NONE, 0, NONE, 0);
    }

    static void promise02EachNumberHasItsOwnPlace() {
        Run run = started(task(12, 5, 3, 7, 2));
        run.bound(0).is(5);
        run.count(5).is(0);
        run.pass(6);
        run.tells(0, 1, 0, 1, 0, 4, 7, 2);
        run.pass(9);
        run.tells(0, 2, 1, 1, 5, 1, 7, 14);
    }

    public static void main(String[] args) {
        run(Promise02DefineTest.class);
    }
}
