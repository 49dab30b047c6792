import java.util.ArrayList;
import java.util.List;

/** A run of calls on a new object, each with the answer that is due. */
final class Run {
    private static final int MOST_CALLS = 512;

    private final CeilingScheduler x = new CeilingScheduler();
    private final List<Call> calls = new ArrayList<>();
    private final List<Call> callsThatChanged = new ArrayList<>();

    Answer define(int period, int cost, int deadline, int priority, int offset) {
        return make("define", period, cost, deadline, priority, offset);
    }

    Answer ceiling(int object, int c) {
        return make("ceiling", object, c);
    }

    Answer section(int task, int object, int start, int length) {
        return make("section", task, object, start, length);
    }

    Answer start() {
        return make("start");
    }

    Answer event(int task) {
        return make("event", task);
    }

    Answer tick(int n) {
        return make("tick", n);
    }

    /** A tick in which all the units pass. */
    void pass(int n) {
        tick(n).is(n);
    }

    Answer ran() {
        return make("ran");
    }

    Answer tell(int task, int what) {
        return make("tell", task, what);
    }

    /** All that tell says of a task, from 0 on. */
    void tells(int task, int... want) {
        for (int what = 0; what < want.length; what++) {
            tell(task, what).is(want[what]);
        }
    }

    Answer holder(int object) {
        return make("holder", object);
    }

    void holders(int... want) {
        for (int object = 0; object < want.length; object++) {
            holder(object).is(want[object]);
        }
    }

    Answer blocking(int task) {
        return make("blocking", task);
    }

    void blockings(int... want) {
        for (int task = 0; task < want.length; task++) {
            blocking(task).is(want[task]);
        }
    }

    Answer bound(int task) {
        return make("bound", task);
    }

    Answer timeline(int t) {
        return make("timeline", t);
    }

    /** What the timeline says from a time on. */
    void timelines(int from, int... want) {
        for (int i = 0; i < want.length; i++) {
            timeline(from + i).is(want[i]);
        }
    }

    Answer count(int what) {
        return make("count", what);
    }

    private Answer make(String name, int... arguments) {
        Call call = new Call(name, arguments);
        int got = call.on(x);
        calls.add(call);
        if (calls.size() > MOST_CALLS) {
            Tests.wrong("a run of more calls than an object is used for");
        }
        if (call.mayChange() && got != Tests.REFUSED && got != Tests.FULL) {
            callsThatChanged.add(call);
        }
        return new Answer(call, got);
    }

    private static CeilingScheduler after(List<Call> calls) {
        CeilingScheduler x = new CeilingScheduler();
        calls.forEach(c -> c.on(x));
        return x;
    }

    /** The object is not to be told from one that has seen only the calls that changed something. */
    private void dueUnchanged(Call last) {
        for (int way = 0; way < Future.WAYS; way++) {
            Future own = Future.of(after(calls), way);
            String difference = own.differenceTo(Future.of(after(callsThatChanged), way));
            if (difference != null) {
                Tests.wrong(last + " at call " + calls.size() + " changed something: " + difference);
                return;
            }
            if (calls.size() + own.length() > MOST_CALLS) {
                Tests.wrong("a run too long to look at what " + last + " changed");
            }
        }
    }

    /** What a call has answered. */
    final class Answer {
        private final Call call;
        private final int got;

        private Answer(Call call, int got) {
            this.call = call;
            this.got = got;
        }

        void is(int want) {
            if (got != want) {
                Tests.wrong(call + " at call " + calls.size() + " answered " + got + ", due is " + want);
            }
        }

        /** REFUSED, and nothing has changed. */
        void isRefused() {
            is(Tests.REFUSED);
            dueUnchanged(call);
        }

        /** FULL, and nothing has changed. */
        void isFull() {
            is(Tests.FULL);
            dueUnchanged(call);
        }
    }
}
