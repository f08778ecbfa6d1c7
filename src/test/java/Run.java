import java.util.ArrayList;
import java.util.List;
import java.util.function.ToIntFunction;

/**
 * A run of calls, kept so that it can be made again on a new object: much can then be asked of the state behind it, and
 * yet no object gets more calls than the document speaks of. A Run does not change; each call makes a longer one.
 */
final class Run {
    static final int MOST_CALLS = 512;

    private final List<ToIntFunction<PieceSwarm>> calls;

    Run() {
        this(List.of());
    }

    private Run(List<ToIntFunction<PieceSwarm>> calls) {
        this.calls = calls;
    }

    Run and(ToIntFunction<PieceSwarm> call) {
        List<ToIntFunction<PieceSwarm>> longer = new ArrayList<>(calls);
        longer.add(call);
        return new Run(longer);
    }

    Run file(int pieces, int blocks, int seed) {
        return and(x -> x.file(pieces, blocks, seed) ? 1 : 0);
    }

    Run peer(int kind, int up, int down) {
        return and(x -> x.peer(kind, up, down));
    }

    Run often(int p, int f) {
        return and(x -> x.often(p, f) ? 1 : 0);
    }

    Run meet(int a, int b) {
        return and(x -> x.meet(a, b) ? 1 : 0);
    }

    Run leave(int p) {
        return and(x -> x.leave(p) ? 1 : 0);
    }

    Run join(int p) {
        return and(x -> x.join(p) ? 1 : 0);
    }

    Run tick(int n) {
        return and(x -> x.tick(n));
    }

    int length() {
        return calls.size();
    }

    /** A new object behind all calls of this run. */
    PieceSwarm made() {
        PieceSwarm made = new PieceSwarm();
        for (ToIntFunction<PieceSwarm> call : calls) {
            call.applyAsInt(made);
        }
        return made;
    }
}
