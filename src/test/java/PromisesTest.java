/** One method for each promise: ordinary inputs, the edges that the document names, wrong inputs. */
public final class PromisesTest {
    private static final int REFUSED = CeilingScheduler.REFUSED;
    private static final int FULL = CeilingScheduler.FULL;
    private static final int DONE = CeilingScheduler.DONE;
    private static final int NONE = CeilingScheduler.NONE;
    private static final int MIN = Integer.MIN_VALUE;
    private static final int MAX = Integer.MAX_VALUE;

    private static int promise = 0;
    private static int wrong = 0;

    private static void due(String call, int got, int want) {
        if (got != want) {
            wrong++;
            System.out.println("promise " + promise + ": " + call + " answered " + got + ", due is " + want);
        }
    }

    private static void dueTimeline(CeilingScheduler x, int from, int... tasks) {
        for (int i = 0; i < tasks.length; i++) {
            due("timeline(" + (from + i) + ")", x.timeline(from + i), tasks[i]);
        }
    }

    /** A scheduler with tasks given as period, cost, deadline, priority, offset. */
    private static CeilingScheduler with(int[]... tasks) {
        CeilingScheduler x = new CeilingScheduler();
        for (int i = 0; i < tasks.length; i++) {
            int[] t = tasks[i];
            due("define", x.define(t[0], t[1], t[2], t[3], t[4]), i);
        }
        return x;
    }

    private static int[] task(int period, int cost, int deadline, int priority, int offset) {
        return new int[] {period, cost, deadline, priority, offset};
    }

    private static CeilingScheduler started(int[]... tasks) {
        CeilingScheduler x = with(tasks);
        due("start", x.start(), DONE);
        return x;
    }

    private static void constants() {
        due("REFUSED", REFUSED, -1);
        due("FULL", FULL, -2);
        due("DONE", DONE, 0);
        due("NONE", NONE, -3);
    }

    private static void newObject() {
        CeilingScheduler x = new CeilingScheduler();
        for (int what = 0; what <= 4; what++) {
            due("count(" + what + ")", x.count(what), 0);
        }
        due("count(5) without tasks", x.count(5), 1);
        due("ran", x.ran(), NONE);
        due("timeline(0)", x.timeline(0), REFUSED);
        due("tell", x.tell(0, 0), REFUSED);
        due("blocking", x.blocking(0), REFUSED);
        due("bound", x.bound(0), REFUSED);
        due("tick", x.tick(1), REFUSED);
        due("event", x.event(0), REFUSED);
        due("section", x.section(0, 0, 0, 1), REFUSED);
        for (int object = 0; object < 4; object++) {
            due("holder(" + object + ")", x.holder(object), NONE);
        }
        CeilingScheduler other = started(task(5, 2, 5, 3, 0));
        other.tick(3);
        due("count(3) beside another object", x.count(3), 0);
        due("count(0) beside another object", x.count(0), 0);
        due("start without tasks", x.start(), REFUSED);
        due("define is not started", x.define(5, 2, 5, 3, 0), 0);
    }

    private static void define() {
        CeilingScheduler x = new CeilingScheduler();
        int[][] bad = {
            {1, 1, 1, 1, 0}, {61, 1, 1, 1, 0}, {MIN, 1, 1, 1, 0}, {MAX, 1, 1, 1, 0}, {0, 0, 0, 1, 0}, {-5, 1, 1, 1, 0},
            {9, 0, 1, 1, 0}, {9, 10, 1, 1, 0}, {9, MIN, 1, 1, 0}, {9, MAX, 1, 1, 0},
            {9, 1, 0, 1, 0}, {9, 1, 10, 1, 0}, {9, 1, MIN, 1, 0}, {9, 1, MAX, 1, 0},
            {9, 1, 1, 0, 0}, {9, 1, 1, 11, 0}, {9, 1, 1, MIN, 0}, {9, 1, 1, MAX, 0},
            {9, 1, 1, 1, -2}, {9, 1, 1, 1, 60}, {9, 1, 1, 1, MIN}, {9, 1, 1, 1, MAX}};
        for (int[] b : bad) {
            due("define " + java.util.Arrays.toString(b), x.define(b[0], b[1], b[2], b[3], b[4]), REFUSED);
        }
        due("no task was defined", x.count(3), 0);
        due("least", x.define(2, 1, 1, 1, -1), 0);
        due("C is T and D is T", x.define(2, 2, 2, 1, 0), 1);
        due("greatest", x.define(60, 60, 60, 10, 59), 2);
        due("D below C", x.define(60, 60, 1, 10, 59), 3);
        due("fifth", x.define(10, 1, 10, 5, 0), 4);
        due("sixth", x.define(10, 1, 10, 5, 0), 5);
        due("tasks", x.count(3), 6);
        due("seventh", x.define(10, 1, 10, 5, 0), FULL);
        due("tasks", x.count(3), 6);
        due("start", x.start(), DONE);
        due("started", x.define(10, 1, 10, 5, 0), REFUSED);

        CeilingScheduler y = started(task(10, 1, 10, 5, 0));
        due("started with room", y.define(10, 1, 10, 5, 0), REFUSED);
        due("tasks", y.count(3), 1);
    }

    private static void ceiling() {
        CeilingScheduler x = with(task(10, 6, 10, 4, -1), task(10, 6, 10, 7, -1));
        due("object -1", x.ceiling(-1, 5), REFUSED);
        due("object 4", x.ceiling(4, 5), REFUSED);
        due("object MIN", x.ceiling(MIN, 5), REFUSED);
        due("object MAX", x.ceiling(MAX, 5), REFUSED);
        due("c 0", x.ceiling(0, 0), REFUSED);
        due("c 11", x.ceiling(0, 11), REFUSED);
        due("c MIN", x.ceiling(0, MIN), REFUSED);
        due("c MAX", x.ceiling(0, MAX), REFUSED);
        due("c 1", x.ceiling(0, 1), DONE);
        due("the ceiling is 1", x.section(0, 0, 0, 2), REFUSED);
        due("c 10", x.ceiling(0, 10), DONE);
        due("c 4", x.ceiling(0, 4), DONE);
        due("ceiling as high as the task", x.section(0, 0, 0, 2), DONE);
        due("below its user", x.ceiling(0, 3), REFUSED);
        due("refused left it", x.section(0, 0, 2, 2), DONE);
        due("as high as its user", x.ceiling(0, 4), DONE);
        due("still too low for task 1", x.section(1, 0, 0, 1), REFUSED);
        due("up", x.ceiling(0, 7), DONE);
        due("both", x.section(1, 0, 0, 1), DONE);
        due("below one of its users", x.ceiling(0, 6), REFUSED);
        due("another object is free", x.ceiling(3, 1), DONE);
        due("start", x.start(), DONE);
        due("started", x.ceiling(0, 10), REFUSED);
    }

    private static void section() {
        CeilingScheduler x = with(task(60, 60, 60, 5, -1), task(20, 10, 20, 8, -1));
        int[][] bad = {
            {-1, 0, 0, 1}, {2, 0, 0, 1}, {6, 0, 0, 1}, {MIN, 0, 0, 1}, {MAX, 0, 0, 1},
            {0, -1, 0, 1}, {0, 4, 0, 1}, {0, MIN, 0, 1}, {0, MAX, 0, 1},
            {0, 0, -1, 1}, {0, 0, 60, 1}, {0, 0, MIN, 1}, {0, 0, MAX, 1},
            {0, 0, 0, 0}, {0, 0, 0, 61}, {0, 0, 0, MIN}, {0, 0, 0, MAX}, {0, 0, MAX, MAX}, {0, 0, -1, 5},
            {0, 0, 1, 60}, {0, 0, 59, 2}, {1, 0, 0, 11}, {1, 0, 10, 1}, {1, 0, 9, 2}};
        for (int[] b : bad) {
            due("section " + java.util.Arrays.toString(b), x.section(b[0], b[1], b[2], b[3]), REFUSED);
        }
        due("blocking shows no section", x.blocking(1), 0);
        due("middle", x.section(0, 0, 10, 5), DONE);
        due("the same", x.section(0, 1, 10, 5), REFUSED);
        due("its first unit", x.section(0, 1, 8, 3), REFUSED);
        due("its last unit", x.section(0, 1, 14, 1), REFUSED);
        due("within it", x.section(0, 1, 12, 1), REFUSED);
        due("around it", x.section(0, 1, 0, 60), REFUSED);
        due("the same object, a unit in common", x.section(0, 0, 14, 2), REFUSED);
        due("just before it", x.section(0, 1, 9, 1), DONE);
        due("just after it", x.section(0, 0, 15, 45), DONE);
        due("a fourth", x.section(0, 0, 0, 1), FULL);
        due("a fourth that meets another", x.section(0, 0, 9, 1), REFUSED);
        due("a fourth past the cost", x.section(0, 0, 59, 2), REFUSED);
        due("a fourth out of range", x.section(0, 4, 0, 1), REFUSED);
        due("ceiling", x.ceiling(2, 4), DONE);
        due("a fourth below its priority", x.section(0, 2, 0, 1), REFUSED);
        due("ceiling", x.ceiling(3, 7), DONE);
        due("ceiling below the priority", x.section(1, 3, 0, 1), REFUSED);
        due("ceiling", x.ceiling(3, 8), DONE);
        due("ceiling equal to the priority", x.section(1, 3, 0, 10), DONE);
        due("start", x.start(), DONE);
        due("started", x.section(1, 0, 0, 1), REFUSED);

        CeilingScheduler y = with(task(60, 60, 60, 5, -1), task(60, 60, 60, 5, -1));
        due("whole job", y.section(0, 0, 0, 60), DONE);
        due("last unit", y.section(1, 0, 59, 1), DONE);
        due("start", y.start(), DONE);
        due("started with room", y.section(1, 0, 0, 1), REFUSED);
    }

    private static void start() {
        CeilingScheduler x = new CeilingScheduler();
        due("no tasks", x.start(), REFUSED);
        due("no tasks, not started", x.define(4, 1, 4, 1, 0), 0);
        due("not started", x.tick(1), REFUSED);
        due("start", x.start(), DONE);
        due("nothing is released yet", x.tell(0, 0), 0);
        due("time", x.count(0), 0);
        due("again", x.start(), REFUSED);
        due("tick", x.tick(1), 1);
        due("again", x.start(), REFUSED);
        due("time goes on", x.count(0), 1);
    }

    private static void event() {
        CeilingScheduler x = with(task(5, 1, 5, 3, -1), task(10, 1, 10, 3, 0));
        due("not started", x.event(0), REFUSED);
        due("start", x.start(), DONE);
        due("task -1", x.event(-1), REFUSED);
        due("task 2", x.event(2), REFUSED);
        due("task MIN", x.event(MIN), REFUSED);
        due("task MAX", x.event(MAX), REFUSED);
        due("periodic", x.event(1), REFUSED);
        due("first, at time 0", x.event(0), DONE);
        due("released", x.tell(0, 0), 1);
        due("release time", x.tell(0, 6), 0);
        due("at once again", x.event(0), REFUSED);
        due("tick", x.tick(4), 4);
        due("T - 1 after it, its job done", x.event(0), REFUSED);
        due("tick", x.tick(1), 1);
        due("T after it", x.event(0), DONE);
        due("release time", x.tell(0, 6), 5);
        due("released", x.tell(0, 0), 2);
        due("tick", x.tick(17), 17);
        due("later than T", x.event(0), DONE);
        due("tick", x.tick(4), 4);
        due("T is counted from the last one", x.event(0), REFUSED);
        due("released", x.tell(0, 0), 3);

        CeilingScheduler y = started(task(2, 1, 2, 1, -1), task(60, 60, 60, 9, 0));
        for (int i = 0; i < 8; i++) {
            due("event", y.event(0), DONE);
            due("too soon", y.event(0), REFUSED);
            due("tick", y.tick(2), 2);
        }
        due("a ninth", y.event(0), FULL);
        due("released", y.tell(0, 0), 8);
        due("an idle processor never comes, tick", y.tick(1), 1);
        due("still a ninth", y.event(0), FULL);

        CeilingScheduler z = started(task(2, 1, 2, 1, -1), task(40, 18, 40, 9, 0));
        for (int i = 0; i < 8; i++) {
            z.event(0);
            z.tick(2);
        }
        due("a ninth", z.event(0), FULL);
        due("tick", z.tick(3), 3);
        due("one is done", z.tell(0, 1), 1);
        due("room again", z.event(0), DONE);
        due("too soon goes before full", z.event(0), REFUSED);
    }

    private static void tickRefusedAndFull() {
        CeilingScheduler x = with(task(10, 1, 10, 3, 0));
        due("not started", x.tick(1), REFUSED);
        due("start", x.start(), DONE);
        for (int n : new int[] {0, -1, 201, MIN, MAX}) {
            due("tick(" + n + ")", x.tick(n), REFUSED);
        }
        due("time", x.count(0), 0);
        due("tick(200)", x.tick(200), 200);
        due("tick(1)", x.tick(1), 1);
        due("time", x.count(0), 201);

        // Task 1 never runs: its jobs are released at 1, 4, .., 22 and the ninth is due at 25.
        CeilingScheduler y = started(task(2, 2, 2, 9, 0), task(3, 1, 3, 1, 1), task(25, 1, 25, 10, 25), task(7, 1, 7, 1, -1));
        due("up to the stop", y.tick(25), 25);
        due("stopped", y.tick(1), FULL);
        due("refused goes before full", y.tick(0), REFUSED);
        due("refused goes before full", y.tick(201), REFUSED);
        due("time", y.count(0), 25);
        due("no job of another task is released in it", y.tell(2, 0), 0);
        due("eight", y.tell(1, 0), 8);
        due("event while stopped", y.event(3), DONE);
        due("for good", y.tick(200), FULL);
        due("ran stays", y.ran(), 0);
        due("no unit", y.timeline(25), REFUSED);

        CeilingScheduler z = started(task(2, 2, 2, 9, 0), task(3, 1, 3, 1, 1));
        due("cut short", z.tick(200), 25);
        due("stopped", z.tick(200), FULL);

        CeilingScheduler first = started(task(2, 1, 2, 1, 0), task(60, 60, 60, 9, 0));
        due("any task stops it", first.tick(200), 16);
        due("stopped", first.tick(1), FULL);
        due("not done", first.count(4), 9);

        // The eighth job is done in the unit before the ninth is released.
        CeilingScheduler w = started(task(60, 15, 60, 9, 0), task(2, 1, 2, 1, 0));
        due("room just in time", w.tick(17), 17);
    }

    private static void tickReleases() {
        CeilingScheduler x = started(task(4, 1, 4, 3, 2), task(60, 1, 60, 3, 59), task(4, 1, 4, 9, -1));
        due("tick", x.tick(2), 2);
        due("not yet at its offset", x.tell(0, 0), 0);
        due("tick", x.tick(1), 1);
        due("at its offset", x.tell(0, 0), 1);
        due("tick", x.tick(4), 4);
        dueTimeline(x, 0, NONE, NONE, 0, NONE, NONE, NONE, 0);
        due("tick", x.tick(52), 52);
        due("not yet at 59", x.tell(1, 0), 0);
        due("tick", x.tick(1), 1);
        due("at 59", x.tell(1, 0), 1);
        due("sporadic tasks wait for events", x.tell(2, 0), 0);
    }

    private static void tickChooses() {
        CeilingScheduler preempt = started(task(20, 5, 20, 2, 0), task(20, 2, 20, 3, 2), task(20, 1, 20, 1, 0));
        preempt.tick(9);
        dueTimeline(preempt, 0, 0, 0, 1, 1, 0, 0, 0, 2, NONE);

        // In unit 2 task 1 goes on with its next job though task 0's is older; in unit 4 it
        // goes on because it holds object 0 though it did not run in the unit before.
        CeilingScheduler holds = with(task(10, 1, 10, 5, -1), task(2, 2, 2, 5, 0), task(10, 1, 10, 9, -1));
        holds.ceiling(0, 5);
        holds.section(1, 0, 0, 2);
        holds.start();
        holds.tick(1);
        due("event", holds.event(0), DONE);
        holds.tick(2);
        due("event", holds.event(2), DONE);
        holds.tick(2);
        dueTimeline(holds, 0, 1, 1, 1, 2, 1);

        // The same without a section: after the break the older job goes first.
        CeilingScheduler older = started(task(10, 1, 10, 5, -1), task(2, 2, 2, 5, 0), task(10, 1, 10, 9, -1));
        older.tick(1);
        older.event(0);
        older.tick(2);
        older.event(2);
        older.tick(3);
        dueTimeline(older, 0, 1, 1, 1, 2, 0, 1);

        CeilingScheduler least = started(task(20, 2, 20, 5, 1), task(20, 2, 20, 5, 0), task(20, 2, 20, 5, 0), task(20, 2, 20, 9, 0));
        least.tick(8);
        dueTimeline(least, 0, 3, 3, 1, 1, 2, 2, 0, 0);
    }

    private static void tickCeilings() {
        // Task 1 (priority 5) comes at 1, 2 and 3 units into task 0: not let in while 0 holds.
        for (int at = 0; at <= 5; at++) {
            CeilingScheduler x = with(task(30, 6, 30, 2, 0), task(30, 1, 30, 5, -1));
            x.ceiling(0, 6);
            x.section(0, 0, 1, 3);
            x.start();
            if (at > 0) {
                x.tick(at);
            }
            due("event", x.event(1), DONE);
            x.tick(7 - at);
            int in = at == 2 || at == 3 ? 4 : at;
            for (int t = 0; t < 7; t++) {
                due("event at " + at + ", timeline(" + t + ")", x.timeline(t), t == in ? 1 : 0);
            }
        }
        // A ceiling below the newcomer's priority does not keep it out.
        CeilingScheduler y = with(task(30, 6, 30, 2, 0), task(30, 1, 30, 7, 2));
        y.ceiling(0, 6);
        y.section(0, 0, 1, 3);
        y.start();
        y.tick(4);
        dueTimeline(y, 0, 0, 0, 1, 0);
    }

    private static void ran() {
        CeilingScheduler x = with(task(10, 2, 10, 3, 1), task(10, 1, 10, 5, 2));
        due("not started", x.ran(), NONE);
        x.start();
        due("no unit", x.ran(), NONE);
        int[] tasks = {NONE, 0, 1, 0, NONE};
        for (int task : tasks) {
            x.tick(1);
            due("ran at " + x.count(0), x.ran(), task);
        }
        x.tick(201);
        due("a refused tick leaves it", x.ran(), NONE);
        x.tick(8);
        due("the last of several", x.ran(), 1);
    }

    private static void tellWrong() {
        CeilingScheduler x = with(task(10, 2, 10, 3, 0));
        int[] bad = {-1, 1, 6, MIN, MAX};
        for (int b : bad) {
            due("tell(" + b + ", 0)", x.tell(b, 0), REFUSED);
        }
        for (int what : new int[] {-1, 7, MIN, MAX}) {
            due("tell(0, " + what + ")", x.tell(0, what), REFUSED);
        }
        dueTold(x, 0, 0, 0, 0, 0, NONE, NONE, NONE);
        x.start();
        dueTold(x, 0, 0, 0, 0, 0, NONE, NONE, NONE);
    }

    private static void dueTold(CeilingScheduler x, int task, int... want) {
        for (int what = 0; what < want.length; what++) {
            due("time " + x.count(0) + ", tell(" + task + ", " + what + ")", x.tell(task, what), want[what]);
        }
    }

    private static void tell() {
        CeilingScheduler x = with(task(6, 4, 4, 2, 1), task(20, 2, 20, 8, -1));
        x.ceiling(1, 5);
        x.ceiling(2, 2);
        x.section(0, 1, 0, 2);
        x.section(0, 2, 2, 2);
        x.start();
        x.tick(1);
        dueTold(x, 0, 0, 0, 0, 0, NONE, NONE, NONE);
        x.tick(1);
        dueTold(x, 0, 1, 0, 0, 0, 1, 5, 1);
        x.tick(1);
        dueTold(x, 0, 1, 0, 0, 0, 2, 2, 1);
        x.tick(1);
        dueTold(x, 0, 1, 0, 0, 0, 3, 2, 1);
        x.tick(1);
        // Done at 5, just D after its release at 1: not late.
        dueTold(x, 0, 1, 1, 0, 4, NONE, NONE, NONE);
        x.tick(3);
        dueTold(x, 0, 2, 1, 0, 4, 1, 5, 7);
        x.event(1);
        x.tick(2);
        dueTold(x, 1, 1, 1, 0, 2, NONE, NONE, NONE);
        dueTold(x, 0, 2, 1, 0, 4, 1, 5, 7);
        x.tick(1);
        // At 11 the second job (of 7) is not done: late from here on.
        dueTold(x, 0, 2, 1, 1, 4, 2, 2, 7);
        x.tick(2);
        dueTold(x, 0, 2, 2, 1, 6, NONE, NONE, NONE);
        x.tick(4);
        dueTold(x, 0, 3, 3, 1, 6, NONE, NONE, NONE);
    }

    private static void tellWaitingJobs() {
        // Jobs of task 1 pile up behind task 0 and each becomes late by itself.
        CeilingScheduler x = started(task(60, 12, 60, 9, 0), task(4, 3, 3, 1, 0));
        x.tick(2);
        due("late at 2", x.tell(1, 2), 0);
        x.tick(1);
        due("late at 3", x.tell(1, 2), 1);
        x.tick(4);
        due("late at 7", x.tell(1, 2), 2);
        x.tick(5);
        dueTold(x, 1, 3, 0, 3, 0, 0, 1, 0);
        x.tick(4);
        dueTold(x, 1, 4, 1, 4, 15, 1, 1, 4);
        due("not done", x.count(4), 3);

        // The active priority is the task's own between two sections and after the last.
        CeilingScheduler y = with(task(20, 7, 20, 3, 0));
        y.ceiling(0, 4);
        y.ceiling(1, 9);
        y.section(0, 0, 0, 3);
        y.section(0, 1, 3, 2);
        y.section(0, 2, 6, 1);
        y.start();
        int[] active = {4, 4, 3, 9, 3, 3};
        for (int priority : active) {
            y.tick(1);
            due("active at " + y.count(0), y.tell(0, 5), priority);
        }
    }

    private static void holder() {
        CeilingScheduler x = with(task(30, 8, 30, 2, 0), task(30, 3, 30, 7, -1));
        x.ceiling(0, 6);
        x.ceiling(1, 6);
        x.section(0, 0, 1, 2);
        x.section(0, 1, 3, 3);
        x.section(0, 2, 7, 1);
        x.section(1, 3, 0, 3);
        for (int object : new int[] {-1, 4, MIN, MAX}) {
            due("holder(" + object + ")", x.holder(object), REFUSED);
        }
        x.start();
        int[][] holders = {
            {NONE, NONE, NONE, NONE}, {NONE, NONE, NONE, NONE}, {0, NONE, NONE, NONE}, {NONE, NONE, NONE, NONE},
            {NONE, 0, NONE, NONE}};
        dueHolders(x, holders[0]);
        for (int t = 1; t < holders.length; t++) {
            x.tick(1);
            dueHolders(x, holders[t]);
        }
        x.event(1);
        x.tick(1);
        dueHolders(x, NONE, 0, NONE, 1);
        x.tick(1);
        dueHolders(x, NONE, 0, NONE, 1);
        x.tick(1);
        dueHolders(x, NONE, 0, NONE, NONE);
        x.tick(2);
        dueHolders(x, NONE, NONE, NONE, NONE);
        x.tick(1);
        dueHolders(x, NONE, NONE, NONE, NONE);
    }

    private static void dueHolders(CeilingScheduler x, int... want) {
        for (int object = 0; object < want.length; object++) {
            due("time " + x.count(0) + ", holder(" + object + ")", x.holder(object), want[object]);
        }
    }

    private static void blocking() {
        CeilingScheduler x = with(
            task(60, 20, 60, 2, 0), task(60, 20, 60, 4, 0), task(60, 20, 60, 4, 0), task(60, 20, 60, 6, -1), task(60, 9, 60, 9, -1));
        for (int task : new int[] {-1, 5, MIN, MAX}) {
            due("blocking(" + task + ")", x.blocking(task), REFUSED);
        }
        dueBlocking(x, 0, 0, 0, 0, 0);
        x.ceiling(0, 4);
        x.ceiling(1, 6);
        x.ceiling(2, 8);
        x.section(0, 0, 0, 9);
        dueBlocking(x, 0, 9, 9, 0, 0);
        x.section(0, 1, 9, 3);
        dueBlocking(x, 0, 9, 9, 3, 0);
        x.section(0, 2, 12, 2);
        dueBlocking(x, 0, 9, 9, 3, 0);
        x.section(1, 1, 0, 5);
        dueBlocking(x, 0, 9, 9, 5, 0);
        x.section(2, 3, 0, 1);
        dueBlocking(x, 0, 9, 9, 5, 1);
        x.ceiling(2, 10);
        dueBlocking(x, 0, 9, 9, 5, 2);
        x.section(3, 3, 0, 20);
        dueBlocking(x, 0, 9, 9, 5, 20);
        x.start();
        dueBlocking(x, 0, 9, 9, 5, 20);
        x.tick(10);
        dueBlocking(x, 0, 9, 9, 5, 20);
    }

    private static void dueBlocking(CeilingScheduler x, int... want) {
        for (int task = 0; task < want.length; task++) {
            due("blocking(" + task + ")", x.blocking(task), want[task]);
        }
    }

    private static void bound() {
        // R of task 2: 3 + 2 * up(R / 5) + 2 * up(R / 7): 7 -> 9 -> 11 -> 13 -> 13 (its T is 13).
        CeilingScheduler x = with(task(5, 2, 5, 9, 0), task(7, 2, 7, 8, -1), task(13, 3, 13, 7, 3), task(12, 3, 12, 7, 3));
        for (int task : new int[] {-1, 4, MIN, MAX}) {
            due("bound(" + task + ")", x.bound(task), REFUSED);
        }
        due("only itself", x.bound(0), 2);
        due("one above", x.bound(1), 4);
        due("an equal one counts too", x.bound(2), NONE);

        CeilingScheduler y = with(task(5, 2, 5, 9, 0), task(7, 2, 7, 8, -1), task(13, 3, 13, 7, 3), task(60, 9, 60, 1, -1));
        due("just its T", y.bound(2), 13);
        due("the lowest is above its T", y.bound(3), NONE);
        y.section(3, 0, 0, 1);
        due("blocked past its T", y.bound(2), NONE);
        due("blocked", y.bound(0), 3);
        y.section(3, 0, 4, 3);
        due("blocked by the longest, just its T", y.bound(0), 5);
        due("4 + 2 + 3 is past its T", y.bound(1), NONE);
        y.start();
        due("started", y.bound(0), 5);
        y.tick(20);
        due("so it stays", y.bound(0), 5);

        CeilingScheduler z = with(task(10, 4, 1, 5, 0), task(10, 6, 1, 5, 0));
        due("a multiple of the period is not rounded up further", z.bound(0), 10);
        due("its D does not matter", z.bound(1), 10);
        CeilingScheduler w = with(task(2, 2, 2, 1, 0));
        due("the cost is its T", w.bound(0), 2);
    }

    private static void timeline() {
        CeilingScheduler x = with(task(10, 2, 10, 3, 1), task(10, 1, 10, 5, 2));
        due("not started", x.timeline(0), REFUSED);
        x.start();
        due("no unit", x.timeline(0), REFUSED);
        x.tick(5);
        dueTimeline(x, -1, REFUSED, NONE, 0, 1, 0, NONE, REFUSED);
        due("MIN", x.timeline(MIN), REFUSED);
        due("MAX", x.timeline(MAX), REFUSED);
        x.tick(59);
        due("the 64th from the end, idle", x.timeline(0), NONE);
        due("the last", x.timeline(63), 0);
        due("to come", x.timeline(64), REFUSED);
        x.tick(1);
        due("the 65th from the end", x.timeline(0), REFUSED);
        due("the 64th from the end", x.timeline(1), 0);
        x.tick(200);
        due("time", x.count(0), 265);
        due("the 65th from the end", x.timeline(200), REFUSED);
        dueTimeline(x, 201, 0, 1, 0, NONE);
        dueTimeline(x, 261, 0, 1, 0, NONE, REFUSED);
    }

    private static void count() {
        CeilingScheduler x = with(task(10, 2, 10, 3, 1), task(10, 1, 10, 5, 2));
        for (int what : new int[] {-1, 6, MIN, MAX}) {
            due("count(" + what + ")", x.count(what), REFUSED);
        }
        dueCounts(x, 0, 0, 0, 2, 0, 1);
        x.start();
        dueCounts(x, 0, 0, 0, 2, 0, 1);
        x.tick(1);
        dueCounts(x, 1, 1, 0, 2, 0, 1);
        x.tick(1);
        dueCounts(x, 2, 1, 1, 2, 1, 1);
        x.tick(1);
        dueCounts(x, 3, 1, 2, 2, 1, 1);
        x.tick(1);
        dueCounts(x, 4, 1, 3, 2, 0, 1);
        x.tick(7);
        dueCounts(x, 11, 8, 3, 2, 0, 1);
        x.tick(1);
        // The same task as before the idle units: no switch.
        dueCounts(x, 12, 8, 3, 2, 1, 1);

        CeilingScheduler piled = started(task(20, 20, 20, 9, 0), task(5, 1, 5, 1, 0), task(5, 1, 5, 1, -1));
        piled.event(2);
        piled.tick(12);
        due("not done", piled.count(4), 5);
    }

    private static void dueCounts(CeilingScheduler x, int... want) {
        for (int what = 0; what < want.length; what++) {
            due("time " + x.count(0) + ", count(" + what + ")", x.count(what), want[what]);
        }
    }

    private static void countSchedulable() {
        CeilingScheduler x = with(task(10, 2, 2, 9, 0));
        due("just its D", x.count(5), 1);
        x.define(20, 3, 5, 5, 0);
        due("both just their D", x.count(5), 1);
        x.section(1, 0, 0, 1);
        due("blocked past its D", x.count(5), 0);

        CeilingScheduler y = with(task(20, 3, 4, 5, 0), task(10, 2, 2, 9, 0));
        due("the first is past its D", y.count(5), 0);
        CeilingScheduler z = with(task(4, 3, 4, 9, 0), task(4, 2, 4, 5, 0), task(4, 1, 4, 10, 0));
        due("one without a bound", z.count(5), 0);
    }

    private static void orderAndLimits() {
        CeilingScheduler x = with(task(4, 1, 4, 1, 0), task(4, 1, 4, 1, 0), task(4, 1, 4, 1, 0),
            task(4, 1, 4, 1, 0), task(4, 1, 4, 1, 0), task(4, 1, 4, 1, -1));
        int[][] bad = {{1, 1, 1, 1, 0}, {61, 1, 1, 1, 0}, {4, 5, 4, 1, 0}, {4, 1, 5, 1, 0}, {4, 1, 4, 11, 0}, {4, 1, 4, 1, 60}};
        for (int[] b : bad) {
            due("refused before full", x.define(b[0], b[1], b[2], b[3], b[4]), REFUSED);
        }
        due("full", x.define(4, 1, 4, 1, 0), FULL);
        x.start();
        due("started before full", x.define(4, 1, 4, 1, 0), REFUSED);
        due("out of range and started", x.define(1, 1, 4, 1, 0), REFUSED);

        CeilingScheduler y = started(task(60, 60, 60, 10, 0), task(60, 1, 1, 1, -1));
        for (int call = 0; call < 505; call++) {
            due("call " + call, y.tick(200), 200);
        }
        due("time after the most calls", y.count(0), 505 * 200);
        due("the last unit", y.timeline(505 * 200 - 1), 0);
    }

    public static void main(String[] args) {
        constants();
        promise = 1;
        newObject();
        promise = 2;
        define();
        promise = 3;
        ceiling();
        promise = 4;
        section();
        promise = 5;
        start();
        promise = 6;
        event();
        promise = 7;
        tickRefusedAndFull();
        tickReleases();
        tickChooses();
        tickCeilings();
        promise = 8;
        ran();
        promise = 9;
        tellWrong();
        tell();
        tellWaitingJobs();
        promise = 10;
        holder();
        promise = 11;
        blocking();
        promise = 12;
        bound();
        promise = 13;
        timeline();
        promise = 14;
        count();
        countSchedulable();
        promise = 15;
        orderAndLimits();
        System.out.println(wrong == 0 ? "all promises hold" : wrong + " answers are not as due");
        if (wrong != 0) {
            System.exit(1);
        }
    }
}
