/** Promise 7: tick, with what makes time stop. What a UNIT does is in Promise07UnitTest. */
public final class Promise07TickTest extends Tests {
    // n, 1 .. 200, UNITS pass
    static void promise07OneUnitAtLeast() {
        Run run = started(task(10, 1, 10, 3, 0));
        run.tick(0).isRefused();
        run.tick(-1).isRefused();
        run.tick(MIN).isRefused();
        run.count(0).is(0);
        run.tick(1).is(1);
        run.count(0).is(1);
    }

    static void promise07TwoHundredUnitsAtMost() {
        Run run = started(task(10, 1, 10, 3, 0));
        run.tick(201).isRefused();
        run.tick(MAX).isRefused();
        run.count(0).is(0);
        run.tick(200).is(200);
        run.count(0).is(200);
        run.tick(201).isRefused();
        run.count(0).is(200);
    }

    static void promise07ManyUnitsAreAsManySingleOnes() {
        Run many = started(task(7, 3, 7, 3, 2), task(11, 4, 9, 6, 0));
        Run single = started(task(7, 3, 7, 3, 2), task(11, 4, 9, 6, 0));
        many.pass(40);
        for (int t = 0; t < 40; t++) {
            single.pass(1);
        }
        int[] units = {
            1, 1, 1, 1, 0, 0, 0, NONE, NONE, 0, 0, 1, 1, 1, 1, 0, 0, 0, 0, NONE,
            NONE, NONE, 1, 1, 1, 1, 0, 0, 0, NONE, 0, 0, 0, 1, 1, 1, 1, 0, 0, 0};
        many.timelines(0, units);
        single.timelines(0, units);
    }

    // Not started: REFUSED.
    static void promise07NotStartedIsRefused() {
        Run run = with(task(10, 1, 10, 3, 0));
        run.tick(1).isRefused();
        run.tick(200).isRefused();
        run.tick(0).isRefused();
        run.count(0).is(0);
        run.tell(0, 0).is(0);
    }

    // Less if in one a ninth job of a task that is not done would be released.
    // Task 1 never runs: its jobs are released at 1, 4, .., 22 and the ninth is due at 25.
    private static final int[] BUSY = task(2, 2, 2, 9, 0);
    private static final int[] STARVED = task(3, 1, 3, 1, 1);

    static void promise07TheTickIsCutShort() {
        Run run = started(BUSY, STARVED);
        run.tick(200).is(25);
        run.count(0).is(25);
        run.tell(1, 0).is(8);
        run.tick(200).isFull();
    }

    static void promise07TheTickIsCutShortByOne() {
        Run run = started(BUSY, STARVED);
        run.tick(26).is(25);
        run.tick(1).isFull();
    }

    static void promise07TheLastUnitBeforeTheStopPasses() {
        Run run = started(BUSY, STARVED);
        run.pass(22);
        run.tell(1, 0).is(7);
        run.pass(1);
        run.tell(1, 0).is(8);
        run.pass(1);
        run.pass(1);
        run.tick(1).isFull();
        run.count(0).is(25);
    }

    static void promise07ExactlyUpToTheStop() {
        Run run = started(BUSY, STARVED);
        run.tick(25).is(25);
        run.tick(1).isFull();
    }

    static void promise07AnyTaskStopsTime() {
        for (int place = 0; place < 3; place++) {
            int[] calm = task(60, 1, 60, 10, 0);
            int[][] profiles = {calm, calm, calm};
            profiles[place] = STARVED;
            profiles[(place + 1) % 3] = BUSY;
            Run run = started(profiles);
            run.tick(200).is(25);
            run.tick(1).isFull();
        }
    }

    static void promise07TheSixthTaskStopsTime() {
        int[] calm = task(60, 1, 60, 10, -1);
        Run run = started(calm, calm, calm, calm, BUSY, STARVED);
        run.tick(200).is(25);
        run.tick(1).isFull();
    }

    // Then time stops before that UNIT
    static void promise07NothingOfTheStoppedUnitHappens() {
        Run run = started(task(60, 1, 60, 10, 25), BUSY, STARVED, task(25, 1, 25, 10, 25));
        run.tick(200).is(25);
        run.tell(0, 0).is(0);
        run.tell(3, 0).is(0);
        run.tell(1, 0).is(13);
        run.tell(2, 0).is(8);
        run.ran().is(1);
        run.timeline(24).is(1);
        run.timeline(25).isRefused();
        run.count(1).is(0);
        run.count(2).is(1);
        run.tick(1).isFull();
        run.tell(0, 0).is(0);
        run.ran().is(1);
    }

    // for good: FULL from then on if no UNIT passed
    static void promise07TimeStopsForGood() {
        Run run = started(BUSY, STARVED, task(7, 1, 7, 1, -1));
        run.tick(200).is(25);
        for (int again = 0; again < 5; again++) {
            run.tick(1).isFull();
            run.tick(200).isFull();
        }
        run.event(2).is(DONE);
        run.tick(1).isFull();
        run.count(0).is(25);
    }

    static void promise07RefusedIsTestedBeforeTheStop() {
        Run run = started(BUSY, STARVED);
        run.pass(25);
        run.tick(0).isRefused();
        run.tick(201).isRefused();
        run.tick(1).isFull();
    }

    static void promise07RoomJustInTimeIsNoStop() {
        // Task 1's first job is done in the unit that ends when its ninth is due.
        Run run = started(task(60, 15, 60, 9, 0), task(2, 1, 2, 1, 0));
        run.pass(15);
        run.tell(1, 0).is(8);
        run.tell(1, 1).is(0);
        run.tick(30).is(30);
    }

    static void promise07RoomOneUnitTooLateIsAStop() {
        Run run = started(task(60, 16, 60, 9, 0), task(2, 1, 2, 1, 0));
        run.tick(30).is(16);
        run.tick(1).isFull();
    }

    static void promise07EightSporadicJobsDoNotStopTime() {
        Run run = started(task(60, 60, 60, 9, 0), task(2, 1, 2, 1, -1));
        for (int job = 0; job < 8; job++) {
            run.event(1).is(DONE);
            run.pass(2);
        }
        run.event(1).isFull();
        run.tick(200).is(200);
    }

    static void promise07EightOfSeveralTasksTogetherDoNotStopTime() {
        Run run = started(BUSY, task(60, 1, 60, 1, 0), task(50, 1, 50, 1, 0), task(55, 1, 55, 1, 0));
        run.tick(200).is(200);
        run.count(4).is(4 + 4 + 4);
    }

    public static void main(String[] args) {
        run(Promise07TickTest.class);
    }
}
