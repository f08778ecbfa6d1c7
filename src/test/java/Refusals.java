import java.util.function.ToIntFunction;

/**
 * Each call that is refused, in three states: its answer, and that all that can be asked is answered alike before it
 * and behind it, and, behind three ticks more, as if it had not been called.
 */
final class Refusals implements Terms {
    private static final int[] FAR = {LEAST, -1, GREATEST};

    private Refusals() {
    }

    /** A run with what can be asked behind it, and the answers three ticks later if nothing was refused. */
    private static final class State {
        final Run run;
        final Look look;
        final int pieces;
        final int blocks;
        final int peers;
        final int[] later;

        State(Run run, int pieces, int blocks, int peers) {
            this.run = run;
            this.look = new Look(pieces, blocks, peers);
            this.pieces = pieces;
            this.blocks = blocks;
            this.peers = peers;
            this.later = look.answersBehind(run.tick(3));
        }

        void refuses(Checks checks, String name, ToIntFunction<PieceSwarm> call, int answer) {
            look.dueUnchanged(checks, run, name, call, answer);
            look.dueAlike(checks, "three ticks behind " + name, look.answersBehind(run.and(call).tick(3)), later);
        }

        int[] noPeers() {
            return new int[] {LEAST, -1, peers, 12, GREATEST};
        }

        int[] noPieces() {
            return new int[] {LEAST, -1, pieces, GREATEST};
        }

        int[] noBlocks() {
            return new int[] {LEAST, -1, blocks, GREATEST};
        }
    }

    private static int oneIf(boolean truth) {
        return truth ? 1 : 0;
    }

    private static State[] states() {
        return new State[] {fresh(), withoutPeers(), midway()};
    }

    private static State fresh() {
        return new State(new Run(), 1, 1, 0);
    }

    private static State withoutPeers() {
        return new State(new Run().file(24, 4, GREATEST).tick(3), 24, 4, 0);
    }

    /** Twelve PEERS of all KINDS behind 12 ticks; all met but 10 and 11; 3 and 8 are gone. */
    private static State midway() {
        int[][] peers = {{SEED, 2, 1}, {FALSE, 3, 3}, {SLOW, 3, 3}, {PLAIN, 2, 3}, {PLAIN, 1, 2}, {FREE, 1, 2},
            {SHY, 1, 2}, {FALSE, 2, 3}, {SLOW, 2, 3}, {PLAIN, 2, 3}, {PLAIN, 1, 1}, {SEED, 1, 1}};
        Run run = new Run().file(6, 2, 1);
        for (int[] peer : peers) {
            run = run.peer(peer[0], peer[1], peer[2]);
        }
        for (int a = 0; a < 12; a++) {
            for (int b = a + 1; b < 12 && a != 10; b++) {
                run = run.meet(a, b);
            }
        }
        return new State(run.tick(10).leave(3).leave(8).tick(2), 6, 2, 12);
    }

    /** Else the tests below could not tell what a refused call changed. */
    static void promise1TheStateMidwayHasSomethingOfAll(Checks checks) {
        Run run = midway().run;
        for (int what = 0; what <= 10; what++) {
            checks.due("count(" + what + ")", run.made().count(what) > 0, true);
        }
        for (int what = 0; what <= 13; what++) {
            PieceSwarm x = run.made();
            boolean some = false;
            for (int p = 0; p < 12; p++) {
                some |= x.about(p, what) > 0;
            }
            checks.due("about " + what + " of some", some, true);
        }
        for (int what = 0; what <= 8; what++) {
            PieceSwarm x = run.made();
            boolean some = false;
            for (int i = 0; i < 144; i++) {
                some |= x.pair(i / 12, i % 12, what) > 0;
            }
            checks.due("pair " + what + " of some", some, true);
        }
    }

    static void promise2FileRefused(Checks checks) {
        for (State state : states()) {
            for (int pieces : new int[] {LEAST, -1, 0, 25, GREATEST}) {
                state.refuses(checks, "file(" + pieces + ", 2, 9)", x -> oneIf(x.file(pieces, 2, 9)), 0);
            }
            for (int blocks : new int[] {LEAST, -1, 0, 5, GREATEST}) {
                state.refuses(checks, "file(2, " + blocks + ", 9)", x -> oneIf(x.file(2, blocks, 9)), 0);
            }
        }
        State withPeers = midway();
        withPeers.refuses(checks, "file(1, 1, 0) with PEERS", x -> oneIf(x.file(1, 1, 0)), 0);
        withPeers.refuses(checks, "file(24, 4, 9) with PEERS", x -> oneIf(x.file(24, 4, 9)), 0);
    }

    static void promise3ValueWithoutABlock(Checks checks) {
        for (State state : states()) {
            for (int piece : state.noPieces()) {
                state.refuses(checks, "value(" + piece + ", 0)", x -> x.value(piece, 0), 0);
            }
            for (int block : state.noBlocks()) {
                state.refuses(checks, "value(0, " + block + ")", x -> x.value(0, block), 0);
            }
        }
    }

    static void promise4SumWithoutAPiece(Checks checks) {
        for (State state : states()) {
            for (int piece : state.noPieces()) {
                state.refuses(checks, "sum(" + piece + ")", x -> x.sum(piece), 0);
            }
        }
    }

    static void promise5PeerRefused(Checks checks) {
        for (State state : states()) {
            for (int kind : new int[] {LEAST, -1, 6, GREATEST}) {
                state.refuses(checks, "peer(" + kind + ", 1, 1)", x -> x.peer(kind, 1, 1), NONE);
            }
            for (int rate : new int[] {LEAST, -1, 0, 9, GREATEST}) {
                state.refuses(checks, "peer(1, " + rate + ", 1)", x -> x.peer(SEED, rate, 1), NONE);
                state.refuses(checks, "peer(1, 1, " + rate + ")", x -> x.peer(SEED, 1, rate), NONE);
            }
        }
        State full = midway();
        for (int kind = 0; kind <= 5; kind++) {
            int k = kind;
            full.refuses(checks, "a thirteenth peer(" + k + ", 1, 1)", x -> x.peer(k, 1, 1), NONE);
        }
    }

    static void promise6OftenRefused(Checks checks) {
        for (State state : states()) {
            for (int p : state.noPeers()) {
                state.refuses(checks, "often(" + p + ", 1)", x -> oneIf(x.often(p, 1)), 0);
            }
        }
        State midway = midway();
        for (int f : new int[] {LEAST, -1, 0, 101, GREATEST}) {
            midway.refuses(checks, "often(7, " + f + ")", x -> oneIf(x.often(7, f)), 0);
        }
        for (int p = 0; p < 12; p++) {
            int other = p;
            if (p != 1 && p != 7) {
                midway.refuses(checks, "often(" + p + ", 1)", x -> oneIf(x.often(other, 1)), 0);
            }
        }
    }

    static void promise7MeetRefused(Checks checks) {
        for (State state : states()) {
            for (int p : state.noPeers()) {
                state.refuses(checks, "meet(" + p + ", 0)", x -> oneIf(x.meet(p, 0)), 0);
                state.refuses(checks, "meet(0, " + p + ")", x -> oneIf(x.meet(0, p)), 0);
            }
        }
        State midway = midway();
        midway.refuses(checks, "meet(10, 10)", x -> oneIf(x.meet(10, 10)), 0);
        midway.refuses(checks, "meet(0, 1), NEIGHBOURS", x -> oneIf(x.meet(0, 1)), 0);
        midway.refuses(checks, "meet(1, 0), NEIGHBOURS", x -> oneIf(x.meet(1, 0)), 0);
        midway.refuses(checks, "meet(3, 8), NEIGHBOURS, both gone", x -> oneIf(x.meet(3, 8)), 0);
    }

    static void promise8LeaveRefused(Checks checks) {
        for (State state : states()) {
            for (int p : state.noPeers()) {
                state.refuses(checks, "leave(" + p + ")", x -> oneIf(x.leave(p)), 0);
            }
        }
        State midway = midway();
        midway.refuses(checks, "leave(3), gone", x -> oneIf(x.leave(3)), 0);
        midway.refuses(checks, "leave(8), gone", x -> oneIf(x.leave(8)), 0);
    }

    static void promise9JoinRefused(Checks checks) {
        for (State state : states()) {
            for (int p : state.noPeers()) {
                state.refuses(checks, "join(" + p + ")", x -> oneIf(x.join(p)), 0);
            }
        }
        State midway = midway();
        for (int p = 0; p < 12; p++) {
            int here = p;
            if (p != 3 && p != 8) {
                midway.refuses(checks, "join(" + p + "), HERE", x -> oneIf(x.join(here)), 0);
            }
        }
    }

    static void promise10TickRefused(Checks checks) {
        for (State state : states()) {
            for (int n : new int[] {LEAST, -1, 51, 100, GREATEST}) {
                state.refuses(checks, "tick(" + n + ")", x -> x.tick(n), NONE);
            }
            state.refuses(checks, "tick(0)", x -> x.tick(0), 0);
        }
    }

    static void promise11AboutRefused(Checks checks) {
        for (State state : states()) {
            for (int p : state.noPeers()) {
                state.refuses(checks, "about(" + p + ", 2)", x -> x.about(p, 2), NONE);
            }
            for (int what : new int[] {LEAST, -1, 14, GREATEST}) {
                state.refuses(checks, "about(0, " + what + ")", x -> x.about(0, what), NONE);
            }
        }
    }

    static void promise12HeldRefused(Checks checks) {
        for (State state : states()) {
            for (int p : state.noPeers()) {
                state.refuses(checks, "held(" + p + ", 0)", x -> x.held(p, 0), NONE);
            }
            for (int piece : state.noPieces()) {
                state.refuses(checks, "held(0, " + piece + ")", x -> x.held(0, piece), NONE);
            }
        }
    }

    static void promise13FromRefused(Checks checks) {
        for (State state : states()) {
            for (int p : state.noPeers()) {
                state.refuses(checks, "from(" + p + ", 0, 0)", x -> x.from(p, 0, 0), NONE);
            }
            for (int piece : state.noPieces()) {
                state.refuses(checks, "from(2, " + piece + ", 0)", x -> x.from(2, piece, 0), NONE);
            }
            for (int block : state.noBlocks()) {
                state.refuses(checks, "from(2, 0, " + block + ")", x -> x.from(2, 0, block), NONE);
            }
        }
    }

    static void promise14GotRefused(Checks checks) {
        for (State state : states()) {
            for (int p : state.noPeers()) {
                state.refuses(checks, "got(" + p + ", 0, 0)", x -> x.got(p, 0, 0), 0);
            }
            for (int piece : state.noPieces()) {
                state.refuses(checks, "got(0, " + piece + ", 0)", x -> x.got(0, piece, 0), 0);
            }
            for (int block : state.noBlocks()) {
                state.refuses(checks, "got(0, 0, " + block + ")", x -> x.got(0, 0, block), 0);
            }
        }
    }

    static void promise15RareRefused(Checks checks) {
        for (State state : states()) {
            for (int p : state.noPeers()) {
                state.refuses(checks, "rare(" + p + ", 0)", x -> x.rare(p, 0), NONE);
            }
            for (int piece : state.noPieces()) {
                state.refuses(checks, "rare(0, " + piece + ")", x -> x.rare(0, piece), NONE);
            }
        }
    }

    static void promise16PairRefused(Checks checks) {
        for (State state : states()) {
            for (int p : state.noPeers()) {
                state.refuses(checks, "pair(" + p + ", 0, 3)", x -> x.pair(p, 0, 3), NONE);
                state.refuses(checks, "pair(0, " + p + ", 3)", x -> x.pair(0, p, 3), NONE);
            }
            for (int what : new int[] {LEAST, -1, 9, GREATEST}) {
                state.refuses(checks, "pair(0, 1, " + what + ")", x -> x.pair(0, 1, what), NONE);
            }
            state.refuses(checks, "pair(0, 0, 3)", x -> x.pair(0, 0, 3), NONE);
        }
    }

    static void promise17AloneRefused(Checks checks) {
        for (State state : states()) {
            for (int p : new int[] {LEAST, -2, state.peers, 12, GREATEST}) {
                state.refuses(checks, "alone(" + p + ")", x -> x.alone(p), NONE);
            }
        }
    }

    static void promise18BoundRefused(Checks checks) {
        for (State state : states()) {
            for (int p : state.noPeers()) {
                state.refuses(checks, "bound(" + p + ")", x -> x.bound(p), NONE);
            }
        }
        State midway = midway();
        midway.refuses(checks, "bound(3), gone", x -> x.bound(3), NONE);
        midway.refuses(checks, "bound(0), others have something", x -> x.bound(0), NONE);
    }

    static void promise19CountRefused(Checks checks) {
        for (State state : states()) {
            for (int what : FAR) {
                state.refuses(checks, "count(" + what + ")", x -> x.count(what), NONE);
            }
            state.refuses(checks, "count(11)", x -> x.count(11), NONE);
        }
    }
}
