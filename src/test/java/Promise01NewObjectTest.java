/** Promise 1: A new object, with the constants and what the terms say of the first moment. */
public final class Promise01NewObjectTest extends Tests {
    static void promise01TheConstants() {
        int[] constants = {REFUSED, FULL, DONE, NONE};
        int[] due = {-1, -2, 0, -3};
        for (int i = 0; i < due.length; i++) {
            if (constants[i] != due[i]) {
                wrong("constant " + i + " is " + constants[i] + ", due is " + due[i]);
            }
        }
    }

    // No tasks.
    static void promise01NoTasks() {
        Run run = new Run();
        run.count(3).is(0);
        for (int task = 0; task < 6; task++) {
            run.tell(task, 0).isRefused();
            run.blocking(task).isRefused();
            run.bound(task).isRefused();
            run.section(task, 0, 0, 1).isRefused();
            run.event(task).isRefused();
        }
    }

    static void promise01NoJobs() {
        Run run = new Run();
        run.count(4).is(0);
        run.holders(NONE, NONE, NONE, NONE);
    }

    static void promise01WithoutTasksNoneLacksABound() {
        new Run().count(5).is(1);
    }

    // Not started.
    static void promise01NotStarted() {
        Run run = new Run();
        run.tick(1).isRefused();
        run.ceiling(0, 9).is(DONE);
        run.define(5, 2, 5, 3, 0).is(0);
        run.section(0, 0, 0, 1).is(DONE);
        run.tick(1).isRefused();
        run.start().is(DONE);
    }

    // TIME is 0 at first.
    static void promise01TimeIsZero() {
        Run run = new Run();
        run.count(0).is(0);
        run.count(1).is(0);
        run.count(2).is(0);
        run.ran().is(NONE);
        run.timeline(-1).isRefused();
        run.timeline(0).isRefused();
    }

    // OBJECTS 0 .. 3 have a ceiling, 10 at first.
    static void promise01EachCeilingIsTenAtFirst() {
        for (int object = 0; object < 4; object++) {
            Run run = with(task(10, 3, 10, 10, -1), task(10, 3, 10, 1, 0));
            run.section(0, object, 0, 1).is(DONE);
            run.section(1, object, 0, 2).is(DONE);
            run.blockings(2, 0);
            run.start().is(DONE);
            run.pass(1);
            run.tell(1, 5).is(10);
        }
    }

    static void promise01AnotherObjectIsApart() {
        Run busy = with(task(5, 2, 5, 3, 0));
        busy.ceiling(0, 3).is(DONE);
        busy.section(0, 0, 0, 2).is(DONE);
        busy.start().is(DONE);
        busy.pass(1);
        Run run = new Run();
        run.count(3).is(0);
        run.count(0).is(0);
        run.ran().is(NONE);
        run.holder(0).is(NONE);
        run.define(5, 2, 5, 9, 0).is(0);
        run.section(0, 0, 0, 1).is(DONE);
        busy.count(3).is(1);
        busy.tell(0, 5).is(3);
    }

    public static void main(String[] args) {
        run(Promise01NewObjectTest.class);
    }
}
