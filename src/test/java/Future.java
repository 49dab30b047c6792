import java.util.ArrayList;
import java.util.List;

/** What an object answers from now on, in one of several ways of going on with it. */
final class Future {
    static final int WAYS = 19;
    private static final int LOOK = 0;
    private static final int SIMULATE = 1;
    private static final int LOWER_CEILINGS = 12;

    private final CeilingScheduler x;
    private final List<Call> calls = new ArrayList<>();
    private final List<Integer> answers = new ArrayList<>();

    private Future(CeilingScheduler x) {
        this.x = x;
    }

    static Future of(CeilingScheduler x, int way) {
        Future future = new Future(x);
        if (way == LOOK) {
            future.look();
        } else if (way == SIMULATE) {
            future.simulate();
        } else if (way < LOWER_CEILINGS) {
            future.useObjects(way - SIMULATE);
        } else if (way == LOWER_CEILINGS) {
            future.lowerCeilings();
        } else {
            future.useUnits(way - LOWER_CEILINGS - 1);
        }
        return future;
    }

    int length() {
        return calls.size();
    }

    /** The first call that the two answer otherwise, or null. */
    String differenceTo(Future other) {
        for (int i = 0; i < Math.min(length(), other.length()); i++) {
            if (!answers.get(i).equals(other.answers.get(i))) {
                return calls.get(i) + " answers " + answers.get(i) + " and not " + other.answers.get(i);
            }
        }
        return null;
    }

    private int ask(String name, int... arguments) {
        Call call = new Call(name, arguments);
        int answer = call.on(x);
        calls.add(call);
        answers.add(answer);
        return answer;
    }

    private void look() {
        for (int what = 0; what <= 5; what++) {
            ask("count", what);
        }
        lookAtJobs(ask("count", 3));
        lookAtAnalysis();
        lookAtUnits();
    }

    private void lookAtJobs(int tasks) {
        ask("ran");
        for (int object = 0; object < 4; object++) {
            ask("holder", object);
        }
        for (int task = 0; task < tasks; task++) {
            for (int what = 0; what <= 6; what++) {
                ask("tell", task, what);
            }
        }
    }

    private void lookAtAnalysis() {
        int tasks = ask("count", 3);
        for (int task = 0; task < tasks; task++) {
            ask("blocking", task);
            ask("bound", task);
        }
    }

    private void lookAtUnits() {
        int time = ask("count", 0);
        for (int t = time - 65; t <= time; t++) {
            ask("timeline", t);
        }
    }

    private void simulate() {
        ask("start");
        int tasks = ask("count", 3);
        for (int n : new int[] {1, 3, 7, 40}) {
            for (int task = 0; task < tasks; task++) {
                ask("event", task);
            }
            ask("tick", n);
            lookAtJobs(tasks);
        }
        lookAtUnits();
    }

    /** Shows which ceilings are at least as high as a priority. */
    private void useObjects(int priority) {
        ask("define", 60, 30, 60, priority, -1);
        int task = ask("count", 3) - 1;
        for (int object = 0; object < 4; object++) {
            ask("section", task, object, object, 1);
        }
    }

    /** Shows the greatest priority of a user of each object. */
    private void lowerCeilings() {
        for (int c = 10; c >= 1; c--) {
            for (int object = 0; object < 4; object++) {
                ask("ceiling", object, c);
            }
        }
        lookAtAnalysis();
    }

    /** Shows a task's cost, its free units and how many sections it has. */
    private void useUnits(int task) {
        for (int object = 0; object < 4; object++) {
            ask("ceiling", object, 10);
        }
        for (int unit = 0; unit < 60; unit++) {
            ask("section", task, unit % 4, unit, 1);
        }
    }
}
