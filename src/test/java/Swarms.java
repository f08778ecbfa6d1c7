/** States that several tests begin with. */
final class Swarms implements Terms {
    private Swarms() {
    }

    /** No PEERS yet. */
    static PieceSwarm swarm(int pieces, int blocks) {
        return swarm(pieces, blocks, 0);
    }

    static PieceSwarm swarm(int pieces, int blocks, int seed) {
        PieceSwarm x = new PieceSwarm();
        if (!x.file(pieces, blocks, seed)) {
            throw new IllegalStateException("file(" + pieces + ", " + blocks + ", " + seed + ") was refused");
        }
        return x;
    }

    /** Some PEERS more, all alike. */
    static void add(PieceSwarm x, int many, int kind, int up, int down) {
        for (int i = 0; i < many; i++) {
            x.peer(kind, up, down);
        }
    }

    /** One meets all from one number to another. */
    static void meetAll(PieceSwarm x, int one, int first, int last) {
        for (int i = first; i <= last; i++) {
            x.meet(one, i);
        }
    }

    /** SEED 0 and one PLAIN taker that is NEAR to it; nothing is sent yet. */
    static PieceSwarm seedAndTaker(int pieces, int blocks, int up, int down) {
        PieceSwarm x = swarm(pieces, blocks);
        x.peer(SEED, up, 1);
        x.peer(PLAIN, 1, down);
        x.meet(0, 1);
        return x;
    }

    /** SEED 0 gave all (8 BLOCKS at the most) to 1 and is gone; it is tick 4, so that the next tick OPENS. */
    static PieceSwarm oneThatGotAll(int pieces, int blocks, int kind, int up) {
        PieceSwarm x = swarm(pieces, blocks);
        x.peer(SEED, 8, 1);
        x.peer(kind, up, 8);
        x.meet(0, 1);
        x.tick(4);
        x.leave(0);
        return x;
    }

    /**
     * SEED 0 and FALSE 1, which has all (8 BLOCKS at the most) and of which each BLOCK is false, are both NEAR to 2,
     * that has none yet; it is tick 4, so that the next tick OPENS.
     */
    static PieceSwarm seedAndFalseOne(int blocks, int seedUp, int falseUp, int down) {
        PieceSwarm x = swarm(1, blocks);
        x.peer(SEED, seedUp, 1);
        x.peer(FALSE, falseUp, 8);
        x.peer(PLAIN, 1, down);
        x.often(1, 1);
        x.meet(0, 1);
        x.tick(4);
        x.meet(0, 2);
        x.meet(1, 2);
        return x;
    }
}
