import java.util.Arrays;
import java.util.Set;
import java.util.stream.Collectors;

/** One call of a method by its name, which can be made on any object. */
record Call(String name, int... arguments) {
    private static final Set<String> CHANGING = Set.of("define", "ceiling", "section", "start", "event", "tick");

    int on(CeilingScheduler x) {
        int[] a = arguments;
        return switch (name) {
            case "define" -> x.define(a[0], a[1], a[2], a[3], a[4]);
            case "ceiling" -> x.ceiling(a[0], a[1]);
            case "section" -> x.section(a[0], a[1], a[2], a[3]);
            case "start" -> x.start();
            case "event" -> x.event(a[0]);
            case "tick" -> x.tick(a[0]);
            case "ran" -> x.ran();
            case "tell" -> x.tell(a[0], a[1]);
            case "holder" -> x.holder(a[0]);
            case "blocking" -> x.blocking(a[0]);
            case "bound" -> x.bound(a[0]);
            case "timeline" -> x.timeline(a[0]);
            case "count" -> x.count(a[0]);
            default -> throw new IllegalArgumentException(name);
        };
    }

    boolean mayChange() {
        return CHANGING.contains(name);
    }

    @Override
    public String toString() {
        return name + Arrays.stream(arguments).mapToObj(Integer::toString).collect(Collectors.joining(", ", "(", ")"));
    }
}
