import java.util.ArrayList;
import java.util.List;

/**
 * A LogicText as the tests use it. What an object answers behind its 512th call is free, so a test that
 * asks for more goes on with a new object, brought where the old one was by the same changing calls.
 */
final class Used {
    static final int MOST_CALLS = 512;

    private static final int FEED = 0;
    private static final int END = 1;
    private static final int READ = 2;
    private static final int TELL = 3;

    private final List<int[]> changes = new ArrayList<>();
    private LogicText object = new LogicText();
    private int calls = 0;

    /** How many calls the object has had. */
    int calls() {
        return calls;
    }

    private LogicText next() {
        if (calls == MOST_CALLS) {
            if (changes.size() >= MOST_CALLS) {
                throw new IllegalStateException("a test changes one object too often");
            }
            object = new LogicText();
            for (int[] change : changes) {
                doAgain(change);
            }
            calls = changes.size();
        }
        calls++;
        return object;
    }

    private void doAgain(int[] change) {
        switch (change[0]) {
            case FEED: object.feed(change[1], change[2], change[3], change[4], change[5]); break;
            case END: object.end(change[1]); break;
            case TELL: object.tell(change[1]); break;
            default:
                try {
                    object.read();
                } catch (IllegalArgumentException e) {
                    // A fault is as it was the first time.
                }
                break;
        }
    }

    private LogicText change(int... change) {
        LogicText changed = next();
        changes.add(change);
        return changed;
    }

    void feed(int a, int b, int c, int d, int e) {
        change(FEED, a, b, c, d, e).feed(a, b, c, d, e);
    }

    int end(int n) {
        return change(END, n).end(n);
    }

    int read() {
        return change(READ).read();
    }

    int fault(int what) {
        return next().fault(what);
    }

    int count(int what) {
        return next().count(what);
    }

    int item(int k, int what) {
        return next().item(k, what);
    }

    int part(int k, int i, int what) {
        return next().part(k, i, what);
    }

    int node(int n, int what) {
        return next().node(n, what);
    }

    int name(int k, int i) {
        return next().name(k, i);
    }

    int find(long first, long second) {
        return next().find(first, second);
    }

    int tell(int k) {
        return change(TELL, k).tell(k);
    }

    int letter(int i) {
        return next().letter(i);
    }
}
