/** Promise 6: event. */
public final class Promise06EventTest extends Tests {
    // Not started: REFUSED.
    static void promise06NotStartedIsRefused() {
        Run run = with(task(5, 1, 5, 3, -1));
        run.event(0).isRefused();
        run.start().is(DONE);
        run.tell(0, 0).is(0);
        run.event(0).is(DONE);
    }

    // No such task: REFUSED.
    static void promise06NoSuchTaskIsRefused() {
        Run run = started(task(5, 1, 5, 3, -1), task(5, 1, 5, 3, -1));
        run.event(-1).isRefused();
        run.event(2).isRefused();
        run.event(6).isRefused();
        run.event(MIN).isRefused();
        run.event(MAX).isRefused();
        run.event(0).is(DONE);
        run.event(1).is(DONE);
    }

    static void promise06TheSixthTaskIsOne() {
        int[] small = task(5, 1, 5, 3, -1);
        Run run = started(small, small, small, small, small, small);
        run.event(6).isRefused();
        run.event(5).is(DONE);
    }

    // It is periodic: REFUSED.
    static void promise06PeriodicIsRefused() {
        Run run = started(task(10, 1, 10, 3, 0), task(10, 1, 10, 3, 59));
        run.event(0).isRefused();
        run.event(1).isRefused();
        run.pass(20);
        run.event(0).isRefused();
        run.event(1).isRefused();
        run.tell(1, 0).is(0);
    }

    // Releases a job of the sporadic task now: DONE.
    static void promise06TheJobIsReleasedNow() {
        Run run = started(task(5, 2, 5, 3, -1));
        run.event(0).is(DONE);
        run.tells(0, 1, 0, 0, 0, 0, 3, 0);
        run.count(4).is(1);
        run.count(0).is(0);
        run.pass(7);
        run.tells(0, 1, 1, 0, 2, NONE, NONE, NONE);
        run.event(0).is(DONE);
        run.tells(0, 2, 1, 0, 2, 0, 3, 7);
        run.pass(1);
        run.ran().is(0);
    }

    static void promise06AJobBehindTheFrontWaits() {
        Run run = started(task(2, 2, 2, 3, -1), task(60, 3, 60, 9, 0));
        run.event(0).is(DONE);
        run.pass(2);
        run.event(0).is(DONE);
        run.tells(0, 2, 0, 1, 0, 0, 3, 0);
        run.pass(3);
        run.tells(0, 2, 1, 2, 5, 0, 3, 2);
    }

    // Its last job was released less than T ago: REFUSED.
    static void promise06LessThanThePeriodAgoIsRefused() {
        Run run = started(task(5, 1, 5, 3, -1));
        run.event(0).is(DONE);
        run.event(0).isRefused();
        run.pass(1);
        run.tell(0, 1).is(1);
        run.event(0).isRefused();
        run.pass(3);
        run.event(0).isRefused();
        run.pass(1);
        run.event(0).is(DONE);
        run.tell(0, 0).is(2);
    }

    static void promise06TheLeastPeriod() {
        Run run = started(task(2, 1, 1, 3, -1));
        run.event(0).is(DONE);
        run.pass(1);
        run.event(0).isRefused();
        run.pass(1);
        run.event(0).is(DONE);
    }

    static void promise06TheGreatestPeriod() {
        Run run = started(task(60, 1, 60, 3, -1));
        run.event(0).is(DONE);
        run.pass(59);
        run.event(0).isRefused();
        run.pass(1);
        run.event(0).is(DONE);
    }

    static void promise06TheFirstOneMayComeAtAnyTime() {
        for (int at = 1; at <= 3; at++) {
            Run run = started(task(60, 1, 60, 3, -1));
            run.pass(at);
            run.event(0).is(DONE);
            run.tell(0, 6).is(at);
        }
    }

    static void promise06ThePeriodIsCountedFromTheLastRelease() {
        Run run = started(task(5, 1, 5, 3, -1));
        run.event(0).is(DONE);
        run.pass(8);
        run.event(0).is(DONE);
        run.pass(4);
        run.event(0).isRefused();
        run.pass(1);
        run.event(0).is(DONE);
        run.tell(0, 6).is(13);
    }

    static void promise06ARefusedOneIsNoLastJob() {
        Run run = started(task(5, 1, 5, 3, -1));
        run.event(0).is(DONE);
        run.pass(4);
        run.event(0).isRefused();
        run.pass(1);
        run.event(0).is(DONE);
    }

    static void promise06EachTaskHasItsOwnLastJob() {
        Run run = started(task(5, 1, 5, 3, -1), task(7, 1, 7, 3, -1));
        run.event(0).is(DONE);
        run.pass(2);
        run.event(1).is(DONE);
        run.pass(3);
        run.event(1).isRefused();
        run.event(0).is(DONE);
    }

    // 8 of its jobs are not done: FULL.
    private static Run eightWaiting(int costOfTheOther) {
        Run run = started(task(2, 1, 2, 1, -1), task(60, costOfTheOther, 60, 9, 0));
        for (int job = 0; job < 8; job++) {
            run.event(0).is(DONE);
            run.pass(2);
        }
        run.tell(0, 0).is(8);
        return run;
    }

    static void promise06TheEighthIsTakenAndTheNinthIsFull() {
        Run run = eightWaiting(60);
        run.event(0).isFull();
        run.pass(1);
        run.event(0).isFull();
        run.tell(0, 0).is(8);
        run.count(4).is(9);
    }

    static void promise06OneDoneMakesRoomForOne() {
        Run run = eightWaiting(18);
        run.pass(2);
        run.event(0).isFull();
        run.pass(1);
        run.tell(0, 1).is(1);
        run.event(0).is(DONE);
        run.tells(0, 9, 1, 8, 19, 0, 1, 2);
    }

    static void promise06AFullOneIsNoLastJob() {
        Run run = eightWaiting(16);
        run.event(0).isFull();
        run.pass(1);
        run.event(0).is(DONE);
        run.tell(0, 0).is(9);
    }

    static void promise06OnlyItsOwnJobsMakeItFull() {
        Run run = started(task(2, 1, 2, 1, -1), task(60, 60, 60, 9, 0), task(60, 1, 60, 1, -1));
        for (int job = 0; job < 8; job++) {
            run.event(0).is(DONE);
            run.pass(2);
        }
        run.event(2).is(DONE);
        run.event(0).isFull();
    }

    // The sentence of REFUSED stands before that of FULL.
    static void promise06TooSoonIsTestedBeforeFull() {
        Run run = started(task(2, 1, 2, 1, -1), task(60, 60, 60, 9, 0));
        for (int job = 0; job < 8; job++) {
            run.event(0).is(DONE);
            run.pass(job == 7 ? 1 : 2);
        }
        run.event(0).isRefused();
        run.pass(1);
        run.event(0).isFull();
    }

    // The release times go round in what holds the eight of them.
    static void promise06TheJobsKeepTheirOrderOverManyRounds() {
        Run run = started(task(2, 1, 2, 1, -1), task(60, 14, 60, 9, 0));
        for (int job = 0; job < 7; job++) {
            run.event(0).is(DONE);
            run.pass(2);
        }
        // From now on a job is done in each unit and one is released in every second.
        for (int t = 14; t < 26; t++) {
            run.tell(0, 6).is(2 * (t - 14));
            if (t % 2 == 0) {
                run.event(0).is(DONE);
            }
            run.pass(1);
        }
        run.tells(0, 13, 12, 13, 15, 0, 1, 24);
    }

    static void promise06TimeStoppedForGoodIsStillNow() {
        Run run = started(task(2, 1, 2, 1, 0), task(60, 60, 60, 9, 0), task(5, 1, 5, 3, -1));
        run.tick(200).is(16);
        run.tick(1).isFull();
        run.event(2).is(DONE);
        run.tell(2, 6).is(16);
        run.event(2).isRefused();
    }

    public static void main(String[] args) {
        run(Promise06EventTest.class);
    }
}
