import java.util.ArrayList;
import java.util.Comparator;
import java.util.List;
import java.util.Random;

/** Runs of calls from fixed seeds on the class and on a plain model of the document, answer against answer. */
public final class ModelTest {
    private static final int REFUSED = -1;
    private static final int FULL = -2;
    private static final int DONE = 0;
    private static final int NONE = -3;
    private static final int RUNS = 6000;
    private static final int MOST_CALLS = 512;

    private static final class Job {
        private final int release;
        private int unitsDone;
        private int doneAt = -1;
        private boolean late;

        private Job(int release) {
            this.release = release;
        }
    }

    private static final class ModelTask {
        private final int number;
        private final int period;
        private final int cost;
        private final int deadline;
        private final int priority;
        private final int offset;
        private final List<int[]> sections = new ArrayList<>();
        private final List<Job> jobs = new ArrayList<>();

        private ModelTask(int number, int... profile) {
            this.number = number;
            period = profile[0];
            cost = profile[1];
            deadline = profile[2];
            priority = profile[3];
            offset = profile[4];
        }

        private Job frontJob() {
            return jobs.stream().filter(j -> j.doneAt < 0).findFirst().orElse(null);
        }

        private int notDone() {
            return (int) jobs.stream().filter(j -> j.doneAt < 0).count();
        }

        /** The section that uses a unit, as object, start, length. */
        private int[] sectionOfUnit(int unit) {
            for (int[] s : sections) {
                for (int u = s[1]; u < s[1] + s[2]; u++) {
                    if (u == unit) {
                        return s;
                    }
                }
            }
            return null;
        }

        private int held() {
            Job job = frontJob();
            int[] s = job == null ? null : sectionOfUnit(job.unitsDone);
            return s == null || s[1] == job.unitsDone ? NONE : s[0];
        }

        private boolean dueAt(int time) {
            for (int r = offset; offset >= 0 && r <= time; r += period) {
                if (r == time) {
                    return true;
                }
            }
            return false;
        }
    }

    private static final class Model {
        private final List<ModelTask> tasks = new ArrayList<>();
        private final int[] ceilings = {10, 10, 10, 10};
        private final List<Integer> units = new ArrayList<>();
        private boolean started;

        private static boolean in(int value, int low, int high) {
            return low <= value && value <= high;
        }

        private boolean isTask(int task) {
            return in(task, 0, tasks.size() - 1);
        }

        private int define(int t, int c, int d, int p, int o) {
            boolean ranges = in(t, 2, 60) && in(c, 1, t) && in(d, 1, t) && in(p, 1, 10) && in(o, -1, 59);
            if (started || !ranges) {
                return REFUSED;
            }
            if (tasks.size() == 6) {
                return FULL;
            }
            tasks.add(new ModelTask(tasks.size(), t, c, d, p, o));
            return tasks.size() - 1;
        }

        private int ceiling(int object, int c) {
            if (started || !in(object, 0, 3) || !in(c, 1, 10)) {
                return REFUSED;
            }
            for (ModelTask t : tasks) {
                if (t.priority > c && t.sections.stream().anyMatch(s -> s[0] == object)) {
                    return REFUSED;
                }
            }
            ceilings[object] = c;
            return DONE;
        }

        private int section(int task, int object, int start, int length) {
            if (started || !isTask(task) || !in(object, 0, 3) || !in(start, 0, 59) || !in(length, 1, 60)) {
                return REFUSED;
            }
            ModelTask t = tasks.get(task);
            if (start + length > t.cost || ceilings[object] < t.priority) {
                return REFUSED;
            }
            for (int u = start; u < start + length; u++) {
                if (t.sectionOfUnit(u) != null) {
                    return REFUSED;
                }
            }
            if (t.sections.size() == 3) {
                return FULL;
            }
            t.sections.add(new int[] {object, start, length});
            return DONE;
        }

        private int start() {
            if (started || tasks.isEmpty()) {
                return REFUSED;
            }
            started = true;
            return DONE;
        }

        private int event(int task) {
            if (!started || !isTask(task) || tasks.get(task).offset >= 0) {
                return REFUSED;
            }
            ModelTask t = tasks.get(task);
            for (Job j : t.jobs) {
                if (j.release > units.size() - t.period) {
                    return REFUSED;
                }
            }
            if (t.notDone() == 8) {
                return FULL;
            }
            t.jobs.add(new Job(units.size()));
            return DONE;
        }

        private int tick(int n) {
            if (!started || !in(n, 1, 200)) {
                return REFUSED;
            }
            for (int passed = 0; passed < n; passed++) {
                if (!unit()) {
                    return passed == 0 ? FULL : passed;
                }
            }
            return n;
        }

        private int active(ModelTask t) {
            return t.held() == NONE ? t.priority : Math.max(t.priority, ceilings[t.held()]);
        }

        private boolean unit() {
            int time = units.size();
            List<ModelTask> due = tasks.stream().filter(t -> t.dueAt(time)).toList();
            if (due.stream().anyMatch(t -> t.notDone() == 8)) {
                return false;
            }
            due.forEach(t -> t.jobs.add(new Job(time)));
            int before = ran();
            ModelTask runs = tasks.stream().filter(t -> t.frontJob() != null).min(
                Comparator.comparing((ModelTask t) -> -active(t))
                    .thenComparing(t -> t.held() == NONE ? 1 : 0)
                    .thenComparing(t -> t.number == before ? 0 : 1)
                    .thenComparing(t -> t.frontJob().release)
                    .thenComparing(t -> t.number)).orElse(null);
            units.add(runs == null ? NONE : runs.number);
            if (runs != null) {
                Job job = runs.frontJob();
                job.unitsDone++;
                if (job.unitsDone == runs.cost) {
                    job.doneAt = time + 1;
                }
            }
            for (ModelTask t : tasks) {
                for (Job j : t.jobs) {
                    j.late |= j.release + t.deadline == time + 1 && j.doneAt < 0;
                }
            }
            return true;
        }

        private int ran() {
            return units.isEmpty() ? NONE : units.get(units.size() - 1);
        }

        private int tell(int task, int what) {
            if (!isTask(task) || !in(what, 0, 6)) {
                return REFUSED;
            }
            ModelTask t = tasks.get(task);
            Job front = t.frontJob();
            return switch (what) {
                case 0 -> t.jobs.size();
                case 1 -> t.jobs.size() - t.notDone();
                case 2 -> (int) t.jobs.stream().filter(j -> j.late).count();
                case 3 -> t.jobs.stream().filter(j -> j.doneAt >= 0).mapToInt(j -> j.doneAt - j.release).max().orElse(0);
                case 4 -> front == null ? NONE : front.unitsDone;
                case 5 -> front == null ? NONE : active(t);
                default -> front == null ? NONE : front.release;
            };
        }

        private int holder(int object) {
            if (!in(object, 0, 3)) {
                return REFUSED;
            }
            List<ModelTask> holders = tasks.stream().filter(t -> t.held() == object).toList();
            if (holders.size() > 1) {
                System.out.println("the ceilings let two tasks hold object " + object);
                System.exit(1);
            }
            return holders.isEmpty() ? NONE : holders.get(0).number;
        }

        private int blocking(int task) {
            if (!isTask(task)) {
                return REFUSED;
            }
            int p = tasks.get(task).priority;
            return tasks.stream().filter(t -> t.priority < p).flatMap(t -> t.sections.stream())
                .filter(s -> ceilings[s[0]] >= p).mapToInt(s -> s[2]).max().orElse(0);
        }

        private int bound(int task) {
            if (!isTask(task)) {
                return REFUSED;
            }
            ModelTask i = tasks.get(task);
            // From below to the least fixed point, as it is done in the books.
            int r = 1;
            while (r <= i.period) {
                int next = i.cost + blocking(task);
                for (ModelTask j : tasks) {
                    if (j.number != task && j.priority >= i.priority) {
                        next += j.cost * (int) Math.ceil((double) r / j.period);
                    }
                }
                if (next == r) {
                    return r;
                }
                r = next;
            }
            return NONE;
        }

        private int timeline(int t) {
            return in(t, Math.max(0, units.size() - 64), units.size() - 1) ? units.get(t) : REFUSED;
        }

        private int switches() {
            List<Integer> busy = units.stream().filter(u -> u != NONE).toList();
            int switches = 0;
            for (int i = 0; i < busy.size(); i++) {
                if (i == 0 || busy.get(i).intValue() != busy.get(i - 1)) {
                    switches++;
                }
            }
            return switches;
        }

        private int count(int what) {
            return switch (what) {
                case 0 -> units.size();
                case 1 -> (int) units.stream().filter(u -> u == NONE).count();
                case 2 -> switches();
                case 3 -> tasks.size();
                case 4 -> tasks.stream().mapToInt(ModelTask::notDone).sum();
                case 5 -> tasks.stream().allMatch(t -> bound(t.number) != NONE && bound(t.number) <= t.deadline) ? 1 : 0;
                default -> REFUSED;
            };
        }
    }

    /** One run: the class and the model are given the same calls. */
    private static final class Run {
        private final Random random;
        private final CeilingScheduler x = new CeilingScheduler();
        private final Model model = new Model();
        private final List<String> calls = new ArrayList<>();
        private final int mostPeriod;
        private final int mostTick;
        private boolean wrong;

        private Run(long seed) {
            random = new Random(seed);
            mostPeriod = random.nextBoolean() ? 60 : 8 + random.nextInt(20);
            mostTick = random.nextInt(4) == 0 ? 40 : 4;
        }

        /** A number of the range, and now and then one just or far outside of it. */
        private int pick(int low, int high) {
            int odd = random.nextInt(80);
            if (odd == 0) {
                return low - 1;
            }
            if (odd == 1) {
                return high + 1;
            }
            if (odd == 2) {
                return random.nextInt();
            }
            return low + random.nextInt(Math.max(1, high - low + 1));
        }

        private void same(int got, int want, String name, int... arguments) {
            calls.add(name + java.util.Arrays.toString(arguments) + " -> " + got);
            if (got != want) {
                wrong = true;
                calls.add("due is " + want);
            }
        }

        private void define() {
            int t = pick(2, mostPeriod);
            int c = random.nextInt(3) == 0 ? pick(1, t) : pick(1, Math.max(1, t / 4));
            int d = pick(1, t);
            int p = pick(1, random.nextBoolean() ? 10 : 4);
            int o = random.nextInt(3) == 0 ? -1 : pick(-1, random.nextBoolean() ? 59 : 6);
            same(x.define(t, c, d, p, o), model.define(t, c, d, p, o), "define", t, c, d, p, o);
        }

        private void ceiling() {
            int object = pick(0, 3);
            int c = pick(1, 10);
            same(x.ceiling(object, c), model.ceiling(object, c), "ceiling", object, c);
        }

        private void section() {
            int task = pick(0, model.tasks.size() - 1);
            int cost = model.isTask(task) ? model.tasks.get(task).cost : 5;
            int object = pick(0, 3);
            int start = pick(0, cost - 1);
            int length = random.nextInt(4) == 0 ? pick(1, cost - start) : pick(1, 4);
            same(x.section(task, object, start, length), model.section(task, object, start, length),
                "section", task, object, start, length);
        }

        private void setUp() {
            int steps = 1 + random.nextInt(40);
            for (int i = 0; i < steps && !wrong; i++) {
                int kind = random.nextInt(10);
                if (i == 0 || kind < 3) {
                    define();
                } else if (kind < 5) {
                    ceiling();
                } else if (kind < 9) {
                    section();
                } else {
                    look();
                }
            }
            same(x.start(), model.start(), "start");
        }

        private void look() {
            int task = pick(0, model.tasks.size() - 1);
            int object = pick(0, 3);
            int told = pick(0, 6);
            int counted = pick(0, 5);
            int t = pick(model.units.size() - 65, model.units.size());
            switch (random.nextInt(7)) {
                case 0 -> same(x.ran(), model.ran(), "ran");
                case 1 -> same(x.tell(task, told), model.tell(task, told), "tell", task, told);
                case 2 -> same(x.holder(object), model.holder(object), "holder", object);
                case 3 -> same(x.blocking(task), model.blocking(task), "blocking", task);
                case 4 -> same(x.bound(task), model.bound(task), "bound", task);
                case 5 -> same(x.timeline(t), model.timeline(t), "timeline", t);
                default -> same(x.count(counted), model.count(counted), "count", counted);
            }
        }

        private void simulate() {
            int task = pick(0, model.tasks.size() - 1);
            int n = random.nextInt(60) == 0 ? pick(1, 200) : pick(1, mostTick);
            int kind = random.nextInt(100);
            if (kind < 30) {
                same(x.tick(n), model.tick(n), "tick", n);
            } else if (kind < 50) {
                same(x.event(task), model.event(task), "event", task);
            } else if (kind < 97) {
                look();
            } else if (kind < 98) {
                define();
            } else if (kind < 99) {
                ceiling();
            } else {
                section();
            }
        }

        /** At the end all that can be asked is asked. */
        private void lookAtAll() {
            for (int task = -1; task <= 6; task++) {
                for (int what = -1; what <= 7; what++) {
                    same(x.tell(task, what), model.tell(task, what), "tell", task, what);
                }
                same(x.blocking(task), model.blocking(task), "blocking", task);
                same(x.bound(task), model.bound(task), "bound", task);
                same(x.holder(task), model.holder(task), "holder", task);
                same(x.count(task), model.count(task), "count", task);
            }
            for (int t = model.units.size() - 66; t < model.units.size() + 2; t++) {
                same(x.timeline(t), model.timeline(t), "timeline", t);
            }
        }

        private boolean passes() {
            setUp();
            int steps = random.nextInt(MOST_CALLS - 250);
            for (int i = 0; i < steps && !wrong; i++) {
                simulate();
            }
            if (!wrong) {
                lookAtAll();
            }
            return !wrong;
        }
    }

    public static void main(String[] args) {
        int wrong = 0;
        for (int seed = 1; seed <= RUNS && wrong < 3; seed++) {
            Run run = new Run(seed);
            if (!run.passes()) {
                wrong++;
                System.out.println("seed " + seed + ":");
                run.calls.forEach(System.out::println);
            }
        }
        System.out.println(wrong == 0 ? "the class and the model agree" : "the class and the model differ");
        if (wrong != 0) {
            System.exit(1);
        }
    }
}
