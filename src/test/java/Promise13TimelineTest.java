/** Promise 13: timeline. */
public final class Promise13TimelineTest extends Tests {
    /** Task 0 runs in the units 0, 1 and 2 of each seven, task 1 in unit 4; so no round of 64 is like the one before. */
    private static Run sevens() {
        return started(task(7, 3, 7, 3, 0), task(7, 1, 7, 3, 4));
    }

    private static int taskOfUnit(int t) {
        return t % 7 < 3 ? 0 : t % 7 == 4 ? 1 : NONE;
    }

    private static void dueUnits(Run run, int from, int to) {
        for (int t = from; t <= to; t++) {
            run.timeline(t).is(taskOfUnit(t));
        }
    }

    // REFUSED if it is no UNIT of the last 64 that passed
    static void promise13NoUnitBeforeTheFirst() {
        Run run = with(task(10, 2, 10, 3, 0));
        run.timeline(0).isRefused();
        run.start().is(DONE);
        run.timeline(0).isRefused();
        run.timeline(-1).isRefused();
        run.pass(1);
        run.timeline(0).is(0);
        run.timeline(-1).isRefused();
    }

    static void promise13NoUnitToCome() {
        Run run = sevens();
        run.pass(1);
        run.timeline(0).is(0);
        run.timeline(1).isRefused();
        run.pass(4);
        run.timeline(4).is(1);
        run.timeline(5).isRefused();
        run.timeline(63).isRefused();
        run.timeline(64).isRefused();
    }

    static void promise13NoUnitFarAway() {
        Run run = sevens();
        run.pass(70);
        for (int t : new int[] {MIN, MIN + 70, -64, 70 + 64, MAX - 64, MAX}) {
            run.timeline(t).isRefused();
        }
    }

    static void promise13AllOfTheFirst64() {
        Run run = sevens();
        run.pass(64);
        dueUnits(run, 0, 63);
        run.timeline(-1).isRefused();
        run.timeline(64).isRefused();
    }

    static void promise13TheFirstIsForgottenWithThe65th() {
        Run run = sevens();
        run.pass(65);
        run.timeline(0).isRefused();
        dueUnits(run, 1, 64);
        run.timeline(65).isRefused();
    }

    static void promise13JustBeforeTheSecondRoundIsFull() {
        Run run = sevens();
        run.pass(127);
        run.timeline(62).isRefused();
        dueUnits(run, 63, 126);
        run.timeline(127).isRefused();
    }

    static void promise13TheSecondRoundIsFull() {
        Run run = sevens();
        run.pass(128);
        run.timeline(63).isRefused();
        dueUnits(run, 64, 127);
        run.timeline(128).isRefused();
        run.pass(1);
        run.timeline(64).isRefused();
        dueUnits(run, 65, 128);
    }

    static void promise13AfterTheLongestTick() {
        Run run = sevens();
        run.pass(200);
        run.timeline(135).isRefused();
        dueUnits(run, 136, 199);
        run.timeline(200).isRefused();
        run.pass(200);
        run.timeline(335).isRefused();
        dueUnits(run, 336, 399);
        run.timeline(400).isRefused();
    }

    // NONE if that was IDLE
    static void promise13IdleUnits() {
        Run run = started(task(10, 1, 10, 3, 2));
        run.pass(4);
        run.timelines(0, NONE, NONE, 0, NONE);
    }

    // The task that RAN in the UNIT from t to t + 1
    static void promise13TheTaskOfEachUnit() {
        Run run = started(task(10, 2, 10, 3, 1), task(10, 1, 10, 5, 2));
        run.pass(5);
        run.timelines(0, NONE, 0, 1, 0, NONE);
    }

    static void promise13TheSixthTask() {
        int[] small = task(30, 1, 30, 1, 0);
        Run run = started(small, small, small, small, small, small);
        run.pass(6);
        run.timelines(0, 0, 1, 2, 3, 4, 5);
    }

    static void promise13AUnitThatDidNotPassIsNone() {
        Run run = started(task(2, 1, 2, 1, 0), task(60, 60, 60, 9, 0));
        run.tick(200).is(16);
        run.tick(200).isFull();
        run.timeline(15).is(1);
        run.timeline(16).isRefused();
    }

    public static void main(String[] args) {
        run(Promise13TimelineTest.class);
    }
}
