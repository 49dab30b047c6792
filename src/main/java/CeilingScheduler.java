import java.util.ArrayList;

/** Fixed-priority tasks on one processor with priority ceilings: a simulation and its analysis. */
public final class CeilingScheduler {
    public static final int REFUSED = -1;
    public static final int FULL = -2;
    public static final int DONE = 0;
    public static final int NONE = -3;

    private static final int MOST_TASKS = 6;
    private static final int MOST_SECTIONS = 3;
    private static final int MOST_JOBS = 8;
    private static final int MOST_UNITS = 200;
    private static final int UNITS_KEPT = 64;
    private static final int OBJECTS = 4;
    private static final int LEAST_PERIOD = 2;
    private static final int GREATEST_PERIOD = 60;
    private static final int GREATEST_PRIORITY = 10;
    private static final int SPORADIC = -1;

    private final ArrayList<Task> tasks = new ArrayList<>();
    private final int[] ceilings = new int[OBJECTS];
    private final History history = new History();
    private boolean started;

    public CeilingScheduler() {
        for (int object = 0; object < OBJECTS; object++) {
            ceilings[object] = GREATEST_PRIORITY;
        }
    }

    public int define(int period, int cost, int deadline, int priority, int offset) {
        if (started
                || isOutside(period, LEAST_PERIOD, GREATEST_PERIOD)
                || isOutside(cost, 1, period)
                || isOutside(deadline, 1, period)
                || isOutside(priority, 1, GREATEST_PRIORITY)
                || isOutside(offset, SPORADIC, GREATEST_PERIOD - 1)) {
            return REFUSED;
        }
        if (tasks.size() >= MOST_TASKS) {
            return FULL;
        }
        tasks.add(new Task(period, cost, deadline, priority, offset));
        return tasks.size() - 1;
    }

    public int ceiling(int object, int c) {
        if (started || isNoObject(object) || isOutside(c, 1, GREATEST_PRIORITY)
                || greatestPriorityOn(object) > c) {
            return REFUSED;
        }
        ceilings[object] = c;
        return DONE;
    }

    public int section(int task, int object, int start, int length) {
        if (started || isNoTask(task) || isNoObject(object)
                || isOutside(start, 0, GREATEST_PERIOD - 1)
                || isOutside(length, 1, GREATEST_PERIOD)) {
            return REFUSED;
        }
        Task user = tasks.get(task);
        if (start + length > user.cost
                || user.hasSectionWithin(start, start + length)
                || ceilings[object] < user.priority) {
            return REFUSED;
        }
        if (user.sections.size() >= MOST_SECTIONS) {
            return FULL;
        }
        user.sections.add(new Section(object, start, length));
        return DONE;
    }

    public int start() {
        if (started || tasks.isEmpty()) {
            return REFUSED;
        }
        started = true;
        return DONE;
    }

    public int event(int task) {
        if (!started || isNoTask(task)) {
            return REFUSED;
        }
        Task called = tasks.get(task);
        if (!called.sporadic || called.jobs.hasReleaseWithin(called.period, history.time)) {
            return REFUSED;
        }
        if (called.jobs.isFull()) {
            return FULL;
        }
        called.jobs.release(history.time);
        return DONE;
    }

    public int tick(int n) {
        if (!started || isOutside(n, 1, MOST_UNITS)) {
            return REFUSED;
        }
        int passed = 0;
        while (passed < n && !isStopped()) {
            passUnit();
            passed++;
        }
        return passed == 0 ? FULL : passed;
    }

    public int ran() {
        return history.lastRan;
    }

    public int tell(int task, int what) {
        if (isNoTask(task)) {
            return REFUSED;
        }
        Task asked = tasks.get(task);
        JobQueue jobs = asked.jobs;
        switch (what) {
            case 0:
                return jobs.released;
            case 1:
                return jobs.released - jobs.notDone;
            case 2:
                return jobs.lateAt(history.time, asked.deadline);
            case 3:
                return jobs.greatestResponse;
            case 4:
                return jobs.isEmpty() ? NONE : jobs.unitsOfFront;
            case 5:
                return jobs.isEmpty() ? NONE : activePriority(asked);
            case 6:
                return jobs.isEmpty() ? NONE : jobs.releaseOfFront();
            default:
                return REFUSED;
        }
    }

    public int holder(int object) {
        if (isNoObject(object)) {
            return REFUSED;
        }
        for (int i = 0; i < tasks.size(); i++) {
            if (tasks.get(i).heldObject() == object) {
                return i;
            }
        }
        return NONE;
    }

    public int timeline(int t) {
        return history.holdsUnit(t) ? history.taskOfUnit(t) : REFUSED;
    }

    public int count(int what) {
        switch (what) {
            case 0:
                return history.time;
            case 1:
                return history.idleUnits;
            case 2:
                return history.switches;
            case 3:
                return tasks.size();
            case 4:
                return jobsNotDone();
            case 5:
                return allBoundsMeetDeadlines() ? 1 : 0;
            default:
                return REFUSED;
        }
    }

    public int blocking(int task) {
        return isNoTask(task) ? REFUSED : blockingOf(tasks.get(task));
    }

    public int bound(int task) {
        return isNoTask(task) ? REFUSED : boundOf(task);
    }

    private int blockingOf(Task blocked) {
        int longest = 0;
        for (int i = 0; i < tasks.size(); i++) {
            Task other = tasks.get(i);
            if (other.priority < blocked.priority) {
                longest = Math.max(longest, longestSectionFrom(other, blocked.priority));
            }
        }
        return longest;
    }

    private int longestSectionFrom(Task user, int leastCeiling) {
        int longest = 0;
        for (int i = 0; i < user.sections.size(); i++) {
            Section section = user.sections.get(i);
            if (ceilings[section.object] >= leastCeiling) {
                longest = Math.max(longest, section.length);
            }
        }
        return longest;
    }

    // Every R is tried, since the least one is asked for and a period has few.
    private int boundOf(int task) {
        Task asked = tasks.get(task);
        int ownTime = asked.cost + blockingOf(asked);
        for (int r = 1; r <= asked.period; r++) {
            if (r == ownTime + timeOfOthers(task, r)) {
                return r;
            }
        }
        return NONE;
    }

    private int timeOfOthers(int task, int r) {
        int leastPriority = tasks.get(task).priority;
        int sum = 0;
        for (int i = 0; i < tasks.size(); i++) {
            Task other = tasks.get(i);
            if (i != task && other.priority >= leastPriority) {
                sum += other.cost * other.mostReleasesIn(r);
            }
        }
        return sum;
    }

    private boolean allBoundsMeetDeadlines() {
        for (int i = 0; i < tasks.size(); i++) {
            int bound = boundOf(i);
            if (bound == NONE || bound > tasks.get(i).deadline) {
                return false;
            }
        }
        return true;
    }

    // Only a unit makes room in a queue, so once this is true it stays true.
    private boolean isStopped() {
        for (int i = 0; i < tasks.size(); i++) {
            Task task = tasks.get(i);
            if (task.isDueAt(history.time) && task.jobs.isFull()) {
                return true;
            }
        }
        return false;
    }

    private void passUnit() {
        for (int i = 0; i < tasks.size(); i++) {
            Task task = tasks.get(i);
            if (task.isDueAt(history.time)) {
                task.releasePeriodicJob();
            }
        }
        int chosen = chooseTask();
        history.pass(chosen);
        if (chosen != NONE) {
            tasks.get(chosen).doUnit(history.time);
        }
    }

    private int chooseTask() {
        int best = NONE;
        for (int i = 0; i < tasks.size(); i++) {
            if (!tasks.get(i).jobs.isEmpty() && (best == NONE || goesBefore(i, best))) {
                best = i;
            }
        }
        return best;
    }

    // The least task wins where all else is equal because chooseTask meets it first.
    private boolean goesBefore(int newcomer, int best) {
        Task mine = tasks.get(newcomer);
        Task its = tasks.get(best);
        int myPriority = activePriority(mine);
        int itsPriority = activePriority(its);
        if (myPriority != itsPriority) {
            return myPriority > itsPriority;
        }
        boolean iHold = mine.heldObject() != NONE;
        boolean itHolds = its.heldObject() != NONE;
        if (iHold != itHolds) {
            return iHold;
        }
        if (newcomer == history.lastRan || best == history.lastRan) {
            return newcomer == history.lastRan;
        }
        return mine.jobs.releaseOfFront() < its.jobs.releaseOfFront();
    }

    private int activePriority(Task task) {
        int held = task.heldObject();
        return held == NONE ? task.priority : Math.max(task.priority, ceilings[held]);
    }

    private static boolean isOutside(int value, int least, int greatest) {
        return value < least || value > greatest;
    }

    private static boolean isNoObject(int object) {
        return isOutside(object, 0, OBJECTS - 1);
    }

    private boolean isNoTask(int task) {
        return isOutside(task, 0, tasks.size() - 1);
    }

    private int greatestPriorityOn(int object) {
        int greatest = 0;
        for (int i = 0; i < tasks.size(); i++) {
            Task task = tasks.get(i);
            if (task.hasSectionOn(object)) {
                greatest = Math.max(greatest, task.priority);
            }
        }
        return greatest;
    }

    private int jobsNotDone() {
        int sum = 0;
        for (int i = 0; i < tasks.size(); i++) {
            sum += tasks.get(i).jobs.notDone;
        }
        return sum;
    }

    /** Units of each job of a task that use an object. */
    private static final class Section {
        private final int object;
        private final int first;
        private final int length;

        private Section(int object, int first, int length) {
            this.object = object;
            this.first = first;
            this.length = length;
        }

        private boolean isHeldAfter(int unitsDone) {
            return unitsDone > first && unitsDone < first + length;
        }
    }

    /** A task's profile, with the jobs that it has released. */
    private static final class Task {
        private final int period;
        private final int cost;
        private final int deadline;
        private final int priority;
        private final boolean sporadic;
        private final ArrayList<Section> sections = new ArrayList<>();
        private final JobQueue jobs = new JobQueue();
        private int nextRelease;

        private Task(int period, int cost, int deadline, int priority, int offset) {
            this.period = period;
            this.cost = cost;
            this.deadline = deadline;
            this.priority = priority;
            this.sporadic = offset == SPORADIC;
            this.nextRelease = offset;
        }

        private boolean isDueAt(int time) {
            return !sporadic && nextRelease == time;
        }

        private void releasePeriodicJob() {
            jobs.release(nextRelease);
            nextRelease += period;
        }

        private void doUnit(int timeAfter) {
            jobs.unitsOfFront++;
            if (jobs.unitsOfFront >= cost) {
                jobs.finishFront(timeAfter, deadline);
            }
        }

        private boolean hasSectionWithin(int from, int end) {
            for (int i = 0; i < sections.size(); i++) {
                Section section = sections.get(i);
                if (from < section.first + section.length && section.first < end) {
                    return true;
                }
            }
            return false;
        }

        private boolean hasSectionOn(int object) {
            for (int i = 0; i < sections.size(); i++) {
                if (sections.get(i).object == object) {
                    return true;
                }
            }
            return false;
        }

        // No unit is in two sections, so a front holds one object at most. Without
        // a front no unit of one is done, and so nothing is held.
        private int heldObject() {
            for (int i = 0; i < sections.size(); i++) {
                Section section = sections.get(i);
                if (section.isHeldAfter(jobs.unitsOfFront)) {
                    return section.object;
                }
            }
            return NONE;
        }

        private int mostReleasesIn(int length) {
            // define lets no period below 2 in; the test keeps the division safe by itself.
            return period < 1 ? 0 : (length + period - 1) / period;
        }
    }

    /** The jobs of one task: the release times of those not done, in a ring, and what became of the rest. */
    private static final class JobQueue {
        private final int[] releases = new int[MOST_JOBS];
        private int front;
        private int notDone;
        private int unitsOfFront;
        private int released;
        private int lastRelease;
        private int doneLate;
        private int greatestResponse;

        private boolean isEmpty() {
            return notDone == 0;
        }

        private boolean isFull() {
            return notDone >= MOST_JOBS;
        }

        private boolean hasReleaseWithin(int span, int time) {
            return released > 0 && time - lastRelease < span;
        }

        private int releaseOfFront() {
            return releases[front];
        }

        private void release(int time) {
            releases[(front + notDone) % MOST_JOBS] = time;
            notDone++;
            released++;
            lastRelease = time;
        }

        private void finishFront(int time, int deadline) {
            int response = time - releaseOfFront();
            greatestResponse = Math.max(greatestResponse, response);
            if (response > deadline) {
                doneLate++;
            }
            front = (front + 1) % MOST_JOBS;
            notDone--;
            unitsOfFront = 0;
        }

        private int lateAt(int time, int deadline) {
            int late = doneLate;
            for (int i = 0; i < notDone; i++) {
                if (time - releases[(front + i) % MOST_JOBS] >= deadline) {
                    late++;
                }
            }
            return late;
        }
    }

    /** The time, and which task ran in the units that passed. */
    private static final class History {
        private final int[] taskOf = new int[UNITS_KEPT];
        private int time;
        private int idleUnits;
        private int switches;
        private int lastRan = NONE;
        private int lastNotIdle = NONE;

        private void pass(int task) {
            taskOf[Math.floorMod(time, UNITS_KEPT)] = task;
            time++;
            lastRan = task;
            if (task == NONE) {
                idleUnits++;
            } else if (task != lastNotIdle) {
                switches++;
                lastNotIdle = task;
            }
        }

        private boolean holdsUnit(int t) {
            return t >= 0 && t < time && t >= time - UNITS_KEPT;
        }

        private int taskOfUnit(int t) {
            return taskOf[Math.floorMod(t, UNITS_KEPT)];
        }
    }
}
