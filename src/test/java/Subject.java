import java.util.ArrayList;
import java.util.List;
import java.util.function.ToIntFunction;
import java.util.function.ToLongFunction;

/**
 * An object under test that may be asked as often as a test needs. The document promises
 * nothing behind an object's 512th call; so before it comes, a new object that has had the
 * same changes takes its place.
 */
final class Subject {
    private static final int MOST_CALLS = 512;

    private final List<ToIntFunction<PathExplorer>> changes = new ArrayList<>();
    private PathExplorer object = new PathExplorer();
    private int calls = 0;

    /** A call that may change the object. */
    int change(ToIntFunction<PathExplorer> call) {
        makeRoom();
        changes.add(call);
        calls++;
        return call.applyAsInt(object);
    }

    /** A call that changes nothing. */
    long ask(ToLongFunction<PathExplorer> call) {
        makeRoom();
        calls++;
        return call.applyAsLong(object);
    }

    private void makeRoom() {
        if (calls < MOST_CALLS) {
            return;
        }
        if (changes.size() >= MOST_CALLS) {
            throw new IllegalStateException("the test itself changes its object too often");
        }
        object = new PathExplorer();
        for (ToIntFunction<PathExplorer> call : changes) {
            call.applyAsInt(object);
        }
        calls = changes.size();
    }
}
