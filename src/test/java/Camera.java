import java.util.ArrayList;
import java.util.List;

/**
 * A BayerGate under test. It counts the calls, as nothing is promised behind the 512th, and it
 * remembers what it was told: so that a test can look at all of a camera's state by copies, each
 * of which has calls enough left.
 */
final class Camera {
    static final int MOST_CALLS = 512;

    interface Deed {
        Object done(Camera camera);
    }

    private final BayerGate gate = new BayerGate();
    private final List<Deed> told = new ArrayList<>();
    private int calls = 0;

    private BayerGate gate() {
        calls++;
        if (calls > MOST_CALLS) {
            throw new AssertionError("the test makes more than 512 calls on one object");
        }
        return gate;
    }

    /** A new object that was told the same, as far as it was not refused; what was asked is left out. */
    Camera copy() {
        Camera other = new Camera();
        for (Deed deed : told) {
            deed.done(other);
        }
        return other;
    }

    int calls() {
        return calls;
    }

    private int tell(int answer, Deed deed) {
        told.add(deed);
        return answer;
    }

    int paint(int x, int y, int toX, int toY, int colour) {
        return tell(gate().paint(x, y, toX, toY, colour), c -> c.paint(x, y, toX, toY, colour));
    }

    int lamp(int red, int green, int blue) {
        return tell(gate().lamp(red, green, blue), c -> c.lamp(red, green, blue));
    }

    int spoil(int x, int y, int how) {
        return tell(gate().spoil(x, y, how), c -> c.spoil(x, y, how));
    }

    int map(int x, int y, boolean is) {
        return tell(gate().map(x, y, is), c -> c.map(x, y, is));
    }

    int take(int time, int gain) {
        return tell(gate().take(time, gain), c -> c.take(time, gain));
    }

    int merge(int frames, int limit) {
        return tell(gate().merge(frames, limit), c -> c.merge(frames, limit));
    }

    int edit(int frame, int kind, int number) {
        return tell(gate().edit(frame, kind, number), c -> c.edit(frame, kind, number));
    }

    int undo(int frame) {
        return tell(gate().undo(frame), c -> c.undo(frame));
    }

    int save(int frame) {
        return tell(gate().save(frame), c -> c.save(frame));
    }

    int raw(int frame, int x, int y) {
        return gate().raw(frame, x, y);
    }

    double picture(int frame, int x, int y, int colour) {
        return gate().picture(frame, x, y, colour);
    }

    int word(int frame) {
        return gate().word(frame);
    }

    int ofFrame(int frame, int what) {
        return gate().ofFrame(frame, what);
    }

    int ofEdit(int frame, int edit, int what) {
        return gate().ofEdit(frame, edit, what);
    }

    double zone(int frame, int zone) {
        return gate().zone(frame, zone);
    }

    double meter(int frame) {
        return gate().meter(frame);
    }

    int ofFile(int file, int what) {
        return gate().ofFile(file, what);
    }

    int ofPlace(int x, int y, int what) {
        return gate().ofPlace(x, y, what);
    }

    int many(int what) {
        return gate().many(what);
    }

    double apart(int one, int other) {
        return gate().apart(one, other);
    }

    int wouldClip(int time, int gain) {
        return gate().wouldClip(time, gain);
    }

    int bestTake(int target) {
        return gate().bestTake(target);
    }

    int bestWhite(int frame, int kind) {
        return gate().bestWhite(frame, kind);
    }

    long digest() {
        return gate().digest();
    }
}
