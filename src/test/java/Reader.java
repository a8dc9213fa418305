import java.util.ArrayList;
import java.util.List;
import java.util.function.Consumer;

/**
 * A RuleReader for the tests. The document leaves what an object answers behind its 512th call free,
 * so this one goes on with a new object there, brought to the same state by the same calls.
 */
final class Reader {
    static final int MOST_CALLS = 512;

    private final List<Consumer<RuleReader>> changes = new ArrayList<>();
    private RuleReader object = new RuleReader();
    private int calls = 0;

    private RuleReader next() {
        if (calls == MOST_CALLS) {
            renew();
        }
        calls++;
        return object;
    }

    private void renew() {
        if (changes.size() >= MOST_CALLS) {
            throw new AssertionError("the test needs more than 512 calls of one object");
        }
        object = new RuleReader();
        for (Consumer<RuleReader> change : changes) {
            change.accept(object);
        }
        calls = changes.size();
    }

    boolean unit(int u) {
        RuleReader reader = next();
        changes.add(r -> r.unit(u));
        return reader.unit(u);
    }

    int read() {
        RuleReader reader = next();
        changes.add(RuleReader::read);
        return reader.read();
    }

    int rows(int width, int height) {
        RuleReader reader = next();
        changes.add(r -> Check.outcome(() -> r.rows(width, height)));
        return reader.rows(width, height);
    }

    int row(int k, int what) {
        return next().row(k, what);
    }

    int place(int row, int i) {
        return next().place(row, i);
    }

    int free(int k) {
        return next().free(k);
    }

    int given(int kind) {
        return next().given(kind);
    }

    int line(int n) {
        return next().line(n);
    }

    int write(int i) {
        return next().write(i);
    }

    int depth() {
        return next().depth();
    }

    void clear() {
        RuleReader reader = next();
        changes.add(RuleReader::clear);
        reader.clear();
    }
}
