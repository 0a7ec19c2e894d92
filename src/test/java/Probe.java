import java.util.ArrayList;
import java.util.List;
import java.util.function.Function;
import java.util.function.Supplier;
import java.util.function.ToIntFunction;

/**
 * Looks at all of an object's state that calls can tell of, also at what only later calls show:
 * the states in the history, the snapshots, and what the text says. Each look takes an object of
 * its own, because looking changes it and an object is good for 512 calls only.
 */
final class Probe {
    private static final String[] WAYS = {"at once", "by undo()", "by 2 undo()", "by 3 undo()",
        "by 4 undo()", "by 5 undo()", "by restore(0)", "by restore(1)", "by run()"};

    private Probe() {
    }

    static int ways() {
        return WAYS.length;
    }

    static String nameOf(int way) {
        return WAYS[way];
    }

    /** What is seen of an object as the scene makes it, a text for each way to look. */
    static List<String> views(Supplier<RampPermits> scene) {
        return views(scene, Calls::wholeStateOf);
    }

    /** As views(), but for the latest failure. */
    static List<String> viewsButFailure(Supplier<RampPermits> scene) {
        return views(scene, Calls::stateOf);
    }

    private static List<String> views(Supplier<RampPermits> scene, Function<RampPermits, String> look) {
        List<String> views = new ArrayList<>();
        for (int way = 0; way < WAYS.length; way++) {
            RampPermits x = scene.get();
            int answer = go(x, way);
            views.add(answer + ": " + look.apply(x));
        }
        return views;
    }

    private static int go(RampPermits x, int way) {
        int answer = 0;
        for (int undone = 0; way <= 5 && undone < way; undone++) {
            answer = x.undo();
        }
        if (way == 6 || way == 7) {
            answer = x.restore(way - 6);
        }
        return way == 8 ? x.run() : answer;
    }

    /** The scene, and a call after it. */
    static Supplier<RampPermits> after(Supplier<RampPermits> scene, ToIntFunction<RampPermits> call) {
        return () -> {
            RampPermits x = scene.get();
            call.applyAsInt(x);
            return x;
        };
    }
}
