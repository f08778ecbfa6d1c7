/** Each promise by runs worked out by hand from the document: ordinary inputs, edges, wrong inputs. */
public final class PromisesTest implements Terms {
    private static final int[] NOT_PEERS = {-2, -1, 12, 13, Integer.MIN_VALUE, Integer.MAX_VALUE};

    private static final Checks CHECKS = new Checks("PromisesTest");

    public static void main(String[] args) {
        newObject();
        fileTakesNumbersAsTold();
        fileStaysOnceThereArePeers();
        valuesAndSums();
        peersAndTheirNumbers();
        oftenSetsF();
        oftenCountsOverAllThatWasSent();
        meeting();
        leavingAndJoining();
        goingLosesWhatIsComing();
        goingKeepsWhatItHasAndHolds();
        ticksAndTheirEdges();
        openingByLateNumbers();
        openingByTurns();
        firstByTurnsMayBeZero();
        lateNumberOfOneThatBecomesDone();
        freeAndShyOpenToNobody();
        shyTellsOfEvenPiecesAlone();
        rarePiecesFirst();
        begunPiecesBeforeRareOnes();
        giverWhoMaySendTheMost();
        endAsksASecondGiver();
        endGoesByPieceAndBlock();
        slowBlocksComeTwoTicksLater();
        failOfTwoThenOfOneAlone();
        strandedMarkedPieceIsDropped();
        bannedOneIsNotNear();
        heldFromGot();
        aboutEdges();
        pairEdges();
        aloneHereAndGone();
        boundIsTheGreatest();
        boundNeedsBareOthers();
        counts();
        CHECKS.end();
    }

    private static void due(String call, long got, long want) {
        CHECKS.due(call, got, want);
    }

    private static void due(String call, boolean got, boolean want) {
        CHECKS.due(call, got, want);
    }

    private static PieceSwarm swarm(int pieces, int blocks, int seed) {
        return Swarms.swarm(pieces, blocks, seed);
    }

    private static void newObject() {
        PieceSwarm x = new PieceSwarm();
        due("1: NONE", PieceSwarm.NONE, -1);
        due("1: N", x.count(4), 1);
        due("1: K", x.count(5), 1);
        due("1: value of seed 0", x.value(0, 0), 12345);
        due("1: sum of seed 0", x.sum(0), 12345);
        for (int what : new int[] {0, 1, 2, 3, 6, 7, 8, 9, 10}) {
            due("1: count " + what, x.count(what), 0);
        }
        due("1: tick without peers", x.tick(50), 0);
        due("1: alone without peers", x.alone(NONE), 1);
    }

    private static void fileTakesNumbersAsTold() {
        PieceSwarm x = swarm(5, 3, 9);
        int[] badPieces = {0, 25, -1, Integer.MIN_VALUE, Integer.MAX_VALUE};
        int[] badBlocks = {0, 5, -1, Integer.MIN_VALUE, Integer.MAX_VALUE};
        for (int bad : badPieces) {
            due("2: pieces " + bad, x.file(bad, 1, 0), false);
        }
        for (int bad : badBlocks) {
            due("2: blocks " + bad, x.file(1, bad, 0), false);
        }
        due("2: N stays", x.count(4), 5);
        due("2: K stays", x.count(5), 3);
        due("2: least", x.file(1, 1, Integer.MIN_VALUE), true);
        due("2: most", x.file(24, 4, Integer.MAX_VALUE), true);
        due("2: N", x.count(4), 24);
        due("2: K", x.count(5), 4);
    }

    private static void fileStaysOnceThereArePeers() {
        PieceSwarm x = swarm(2, 2, 3);
        due("2: tick", x.tick(4), 0);
        due("2: other file after ticks", x.file(3, 2, 4), true);
        due("2: ticks go on", x.count(0), 4);
        due("2: peer", x.peer(PLAIN, 1, 1), 0);
        due("2: with a peer", x.file(2, 2, 3), false);
        due("2: leave", x.leave(0), true);
        due("2: with a peer that is gone", x.file(2, 2, 3), false);
        due("2: N stays", x.count(4), 3);
    }

    private static int valueByTheBook(int seed, int p, int b) {
        int x = seed + 4 * p + b;
        x = x * 1103515245 + 12345;
        return x ^ (x >>> 15);
    }

    private static void valuesAndSums() {
        for (int seed : new int[] {0, 1, -1, 77, Integer.MAX_VALUE, Integer.MIN_VALUE}) {
            PieceSwarm x = swarm(24, 4, seed);
            for (int p = 0; p < 24; p++) {
                int s = 0;
                for (int b = 0; b < 4; b++) {
                    due("3: value", x.value(p, b), valueByTheBook(seed, p, b));
                    s = s * 69069 + valueByTheBook(seed, p, b);
                }
                due("4: sum", x.sum(p), s);
            }
        }
        PieceSwarm x = swarm(3, 2, 5);
        due("3: x = 6 by hand", x.value(0, 1), (6 * 1103515245 + 12345) ^ ((6 * 1103515245 + 12345) >>> 15));
        for (int bad : new int[] {-1, 3, 24, Integer.MIN_VALUE, Integer.MAX_VALUE}) {
            due("3: no piece " + bad, x.value(bad, 0), 0);
            due("4: no piece " + bad, x.sum(bad), 0);
        }
        for (int bad : new int[] {-1, 2, 4, Integer.MIN_VALUE, Integer.MAX_VALUE}) {
            due("3: no block " + bad, x.value(0, bad), 0);
        }
    }

    private static void peersAndTheirNumbers() {
        PieceSwarm x = swarm(2, 1, 0);
        for (int bad : new int[] {-1, 6, Integer.MIN_VALUE, Integer.MAX_VALUE}) {
            due("5: kind " + bad, x.peer(bad, 1, 1), NONE);
        }
        for (int bad : new int[] {0, 9, -1, Integer.MIN_VALUE, Integer.MAX_VALUE}) {
            due("5: up " + bad, x.peer(PLAIN, bad, 1), NONE);
            due("5: down " + bad, x.peer(PLAIN, 1, bad), NONE);
        }
        due("5: none yet", x.count(1), 0);
        for (int i = 0; i < 12; i++) {
            due("5: number", x.peer(i % 6, 1 + i % 8, 8 - i % 8), i);
            due("5: kind", x.about(i, 0), i % 6);
            due("5: here", x.about(i, 1), 1);
            due("5: has", x.about(i, 2), i % 6 == SEED ? 2 : 0);
            due("5: done", x.about(i, 9), i % 6 == SEED ? 0 : NONE);
        }
        due("5: a 13th", x.peer(PLAIN, 1, 1), NONE);
        due("5: twelve", x.count(1), 12);
    }

    private static void oftenSetsF() {
        PieceSwarm x = swarm(1, 1, 0);
        for (int kind = PLAIN; kind <= SHY; kind++) {
            due("6: peer", x.peer(kind, 1, 1), kind);
            due("6: kind " + kind, x.often(kind, 5), kind == FALSE);
        }
        due("6: least", x.often(FALSE, 1), true);
        due("6: most", x.often(FALSE, 100), true);
        for (int bad : new int[] {0, 101, -1, Integer.MIN_VALUE, Integer.MAX_VALUE}) {
            due("6: f " + bad, x.often(FALSE, bad), false);
        }
        for (int bad : NOT_PEERS) {
            due("6: peer " + bad, x.often(bad, 2), false);
        }
        due("6: peer 6", x.often(6, 2), false);
        due("6: leave", x.leave(FALSE), true);
        due("6: one that is gone", x.often(FALSE, 7), true);
    }

    private static void oftenCountsOverAllThatWasSent() {
        PieceSwarm x = swarm(8, 1, 0);
        x.peer(SEED, 8, 1);
        x.peer(FALSE, 1, 8);
        x.peer(PLAIN, 1, 1);
        x.meet(0, 1);
        due("6: the false one gets all", x.tick(1), 8);
        due("6: often", x.often(1, 3), true);
        x.meet(1, 2);
        due("6: not open yet", x.tick(3), 0);
        due("6: first", x.tick(1), 1);
        due("6: second", x.tick(1), 1);
        due("6: both are true", x.about(2, 2), 2);
        due("6: now each fourth", x.often(1, 4), true);
        due("6: third", x.tick(1), 1);
        due("6: it is true too", x.about(2, 2), 3);
        due("6: fourth", x.tick(1), 1);
        due("6: it is false", x.about(2, 7), 1);
        due("6: so it is banned", x.pair(2, 1, 7), 1);
    }

    private static void meeting() {
        PieceSwarm x = swarm(1, 1, 0);
        for (int i = 0; i < 3; i++) {
            x.peer(PLAIN, 1, 1);
        }
        due("7: meet", x.meet(0, 1), true);
        due("7: again", x.meet(0, 1), false);
        due("7: the other way", x.meet(1, 0), false);
        due("7: itself", x.meet(2, 2), false);
        for (int bad : NOT_PEERS) {
            due("7: a " + bad, x.meet(bad, 0), false);
            due("7: b " + bad, x.meet(0, bad), false);
        }
        due("7: peer 3", x.meet(0, 3), false);
        x.leave(2);
        due("7: one that is gone", x.meet(0, 2), true);
        due("7: neighbours", x.pair(2, 0, 0), 1);
        due("7: not near", x.pair(2, 0, 1), 0);
        due("7: count of them", x.about(0, 13), 2);
        x.join(2);
        due("7: near", x.pair(2, 0, 1), 1);
        due("7: others are not", x.pair(1, 2, 0), 0);
    }

    private static void leavingAndJoining() {
        PieceSwarm x = swarm(1, 1, 0);
        x.peer(PLAIN, 1, 1);
        due("9: is here", x.join(0), false);
        due("8: leave", x.leave(0), true);
        due("8: again", x.leave(0), false);
        due("8: not here", x.about(0, 1), 0);
        due("8: still a peer", x.count(1), 1);
        due("8: none here", x.count(2), 0);
        due("9: join", x.join(0), true);
        due("9: again", x.join(0), false);
        due("9: here", x.about(0, 1), 1);
        for (int bad : NOT_PEERS) {
            due("8: peer " + bad, x.leave(bad), false);
            due("9: peer " + bad, x.join(bad), false);
        }
        due("8: peer 1", x.leave(1), false);
        due("9: peer 1", x.join(1), false);
    }

    /** Seed 0, SLOW 1 that has got all, and two that take of it: in tick 5 it sends to each. */
    private static PieceSwarm slowOneThatSent() {
        PieceSwarm x = swarm(1, 2, 0);
        x.peer(SEED, 2, 1);
        x.peer(SLOW, 4, 2);
        x.peer(PLAIN, 1, 2);
        x.peer(PLAIN, 1, 1);
        x.meet(0, 1);
        due("8: slow one gets all", x.tick(1), 2);
        x.leave(0);
        x.meet(1, 2);
        x.meet(1, 3);
        x.tick(3);
        due("8: it sends", x.tick(1), 3);
        due("8: coming to 2", x.about(2, 10), 2);
        due("8: coming to 3", x.about(3, 10), 1);
        due("8: coming", x.count(7), 3);
        return x;
    }

    private static void goingLosesWhatIsComing() {
        PieceSwarm x = slowOneThatSent();
        due("8: taker goes", x.leave(2), true);
        due("8: lost", x.count(8), 2);
        due("8: coming to 2", x.about(2, 10), 0);
        due("8: coming", x.count(7), 1);
        due("8: not open to it", x.pair(1, 2, 3), 0);
        due("8: open to the other", x.about(1, 12), 1);
        due("9: it comes again", x.join(2), true);
        due("9: not open to it yet", x.pair(1, 2, 3), 0);
        x.tick(2);
        due("8: the other got its one", x.held(3, 0), 1);
        due("8: it got none", x.about(2, 4), 0);

        PieceSwarm y = slowOneThatSent();
        due("8: giver goes", y.leave(1), true);
        due("8: lost", y.count(8), 3);
        due("8: none coming", y.count(7) + y.about(2, 10) + y.about(3, 10), 0);
        due("8: it is open to none", y.about(1, 12), 0);
        y.join(1);
        due("9: it opens later", y.tick(3), 0);
        due("9: now", y.tick(1), 3);
        due("8: still counted as sent", y.about(1, 5), 6);
    }

    private static void goingKeepsWhatItHasAndHolds() {
        PieceSwarm x = swarm(2, 2, 0);
        x.peer(SEED, 3, 1);
        x.peer(PLAIN, 1, 3);
        x.meet(0, 1);
        due("8: three blocks", x.tick(1), 3);
        x.leave(1);
        due("8: has", x.about(1, 2), 1);
        due("8: holds", x.about(1, 3), 1);
        due("8: held", x.held(1, 1), 1);
        x.leave(0);
        x.join(0);
        due("8: an end of opening by the giver", x.pair(0, 1, 3), 0);
        x.join(1);
        due("9: the last in tick 5", x.tick(4), 1);
        due("9: done", x.about(1, 9), 5);
    }

    private static void ticksAndTheirEdges() {
        PieceSwarm x = swarm(24, 4, 0);
        x.peer(SEED, 1, 1);
        x.peer(PLAIN, 1, 1);
        x.meet(0, 1);
        for (int bad : new int[] {-1, 51, Integer.MIN_VALUE, Integer.MAX_VALUE}) {
            due("10: n " + bad, x.tick(bad), NONE);
        }
        due("10: none", x.tick(0), 0);
        due("10: tick 0", x.count(0), 0);
        due("10: fifty", x.tick(50), 50);
        due("10: tick 50", x.count(0), 50);
        due("10: the rest", x.tick(50), 46);
        due("10: done", x.about(1, 9), 96);
    }

    private static void openingByLateNumbers() {
        PieceSwarm x = swarm(24, 4, 0);
        x.peer(SEED, 8, 1);
        int[] down = {0, 1, 1, 2, 3, 1};
        for (int i = 1; i <= 5; i++) {
            x.peer(PLAIN, 1, down[i]);
            x.meet(0, i);
        }
        due("10: four ticks of seven", x.tick(4), 28);
        for (int i = 1; i <= 5; i++) {
            due("16: late of " + i, x.pair(0, i, 4), i == 5 ? 0 : 4 * down[i]);
            due("16: sent to " + i, x.pair(0, i, 5), i == 5 ? 0 : 4 * down[i]);
            due("16: late at " + i, x.pair(i, 0, 4), i == 5 ? 0 : 4 * down[i]);
        }
        due("10: tick 5: 1, 3, 4 and 5 by turns", x.tick(1), 7);
        int[] open = {0, 1, 0, 1, 1, 1};
        for (int i = 1; i <= 5; i++) {
            due("16: open to " + i, x.pair(0, i, 3), open[i]);
            due("16: by turns " + i, x.pair(0, i, 8), i == 5 ? 1 : 0);
            due("16: late anew " + i, x.pair(0, i, 4), open[i] * down[i]);
        }
        due("11: open to four", x.about(0, 12), 4);
    }

    private static void openingByTurns() {
        PieceSwarm x = swarm(24, 4, 0);
        x.peer(SEED, 1, 1);
        for (int i = 1; i <= 6; i++) {
            x.peer(PLAIN, 1, 1);
            x.meet(0, i);
        }
        int[] turns = {4, 5, 6, 4, 5};
        for (int turn : turns) {
            x.tick(1);
            for (int i = 1; i <= 6; i++) {
                due("16: by turns " + i, x.pair(0, i, 8), i == turn ? 1 : 0);
                due("16: open " + i, x.pair(0, i, 3), i <= 3 || i == turn ? 1 : 0);
            }
            x.tick(3);
        }
        x.leave(5);
        due("16: gone", x.pair(0, 5, 8), 0);
        x.join(5);
        due("16: open no more", x.pair(0, 5, 8) + x.pair(0, 5, 3), 0);
        for (int i = 2; i <= 4; i++) {
            x.leave(i);
        }
        x.tick(1);
        due("10: three want: none by turns", x.about(0, 12), 3);
        for (int i = 1; i <= 6; i++) {
            due("16: none by turns", x.pair(0, i, 8), 0);
        }
        x.join(2);
        x.join(3);
        x.tick(4);
        due("10: after 5 it goes on with 6", x.pair(0, 6, 8), 1);
    }

    private static void firstByTurnsMayBeZero() {
        PieceSwarm x = swarm(24, 4, 0);
        for (int i = 0; i < 5; i++) {
            x.peer(PLAIN, 1, 1);
        }
        x.peer(SEED, 8, 1);
        for (int i = 1; i <= 3; i++) {
            x.meet(i, 5);
        }
        x.tick(4);
        x.meet(0, 5);
        x.meet(4, 5);
        x.tick(1);
        due("16: 0, as none was so before", x.pair(5, 0, 8), 1);
        due("16: not 4", x.pair(5, 4, 3), 0);
        x.tick(4);
        due("16: four got as much: 0 is open by its late number", x.pair(5, 0, 3), 1);
        due("16: not by turns", x.pair(5, 0, 8), 0);
        due("16: after 0 comes 3", x.pair(5, 3, 8), 1);
    }

    private static void lateNumberOfOneThatBecomesDone() {
        PieceSwarm x = swarm(2, 1, 0);
        x.peer(SEED, 1, 1);
        x.peer(PLAIN, 1, 1);
        x.peer(PLAIN, 1, 1);
        x.meet(0, 1);
        x.meet(1, 2);
        x.tick(1);
        due("16: not done: what came", x.pair(1, 0, 4), 1);
        x.tick(1);
        due("11: done", x.about(1, 9), 2);
        due("16: done: what it sent", x.pair(1, 0, 4), 0);
        x.tick(3);
        due("16: sent one", x.pair(1, 2, 4), 1);
        due("16: came one", x.pair(2, 1, 4), 1);
    }

    private static void freeAndShyOpenToNobody() {
        for (int kind : new int[] {FREE, SHY}) {
            PieceSwarm x = swarm(4, 1, 0);
            x.peer(SEED, 8, 1);
            x.peer(kind, 8, 8);
            x.peer(PLAIN, 8, 8);
            x.meet(0, 1);
            x.meet(1, 2);
            due("10: it takes", x.tick(1), 4);
            due("16: late till it opens", x.pair(1, 0, 5) + x.pair(0, 1, 4), 4);
            due("10: it gives nothing", x.tick(12), 0);
            due("16: it is wanted", x.pair(1, 2, 2), 1);
            due("16: it is not open", x.pair(1, 2, 3), 0);
            due("11: to nobody", x.about(1, 12), 0);
        }
        PieceSwarm y = swarm(24, 4, 0);
        y.peer(SEED, 1, 1);
        y.peer(FREE, 1, 1);
        y.meet(0, 1);
        y.tick(4);
        due("16: four came", y.pair(1, 0, 4), 4);
        y.tick(1);
        due("16: a FREE one opens anew too, to none", y.pair(1, 0, 4), 1);
    }

    private static void shyTellsOfEvenPiecesAlone() {
        PieceSwarm x = swarm(24, 1, 0);
        x.peer(SEED, 8, 1);
        x.peer(SHY, 1, 8);
        x.peer(PLAIN, 1, 1);
        x.meet(0, 1);
        x.meet(1, 2);
        x.tick(3);
        due("11: shy has all", x.about(1, 2), 24);
        for (int piece = 0; piece < 24; piece++) {
            due("15: rare " + piece, x.rare(2, piece), 1 - piece % 2);
        }
        for (int bad : new int[] {-1, 24, Integer.MIN_VALUE, Integer.MAX_VALUE}) {
            due("15: piece " + bad, x.rare(2, bad), NONE);
        }
        for (int bad : NOT_PEERS) {
            due("15: peer " + bad, x.rare(bad, 0), NONE);
        }
        due("15: peer 3", x.rare(3, 0), NONE);

        PieceSwarm y = swarm(2, 1, 0);
        y.peer(SEED, 8, 1);
        y.peer(SHY, 1, 8);
        y.peer(PLAIN, 1, 1);
        y.meet(0, 1);
        y.meet(0, 2);
        y.meet(1, 2);
        y.tick(1);
        due("16: of a shy one only 0 could be wanted", y.pair(1, 2, 2), 0);
        due("16: of the seed 1 is wanted", y.pair(0, 2, 2), 1);
        y.leave(0);
        due("16: not near, not wanted", y.pair(0, 2, 2), 0);
        due("15: gone ones do not tell", y.rare(2, 1), 0);
        y.leave(2);
        due("15: to one that is gone none is near", y.rare(2, 0), 0);
    }

    private static void rarePiecesFirst() {
        PieceSwarm x = swarm(2, 1, 0);
        x.peer(SEED, 8, 1);
        x.peer(PLAIN, 8, 1);
        x.peer(PLAIN, 1, 1);
        x.meet(0, 1);
        x.tick(1);
        due("10: of like ones the least", x.held(1, 0), 1);
        x.leave(1);
        x.meet(0, 2);
        x.meet(1, 2);
        x.tick(3);
        x.join(1);
        due("15: two tell of 0", x.rare(2, 0), 2);
        due("15: one of 1", x.rare(2, 1), 1);
        x.tick(1);
        due("10: 1 is rarer", x.held(2, 1), 1);
        due("10: 0 comes later", x.held(2, 0), 0);
        due("13: of the only one", x.from(2, 1, 0), 0);
    }

    private static void begunPiecesBeforeRareOnes() {
        PieceSwarm x = swarm(2, 2, 0);
        x.peer(SEED, 8, 1);
        x.peer(PLAIN, 8, 2);
        x.peer(PLAIN, 1, 1);
        x.meet(0, 1);
        x.meet(0, 2);
        x.tick(1);
        x.meet(1, 2);
        due("15: two tell of 0", x.rare(2, 0), 2);
        due("15: one of 1", x.rare(2, 1), 1);
        due("12: 0 is begun", x.held(2, 0), 1);
        x.tick(1);
        due("10: it goes on", x.held(2, 0), 2);
        due("10: not yet", x.held(2, 1), 0);
    }

    private static void giverWhoMaySendTheMost() {
        PieceSwarm x = swarm(4, 1, 0);
        x.peer(SEED, 1, 1);
        x.peer(SEED, 3, 1);
        x.peer(PLAIN, 1, 4);
        x.meet(0, 2);
        x.meet(1, 2);
        due("10: four", x.tick(1), 4);
        int[] givers = {1, 1, 0, 1};
        for (int piece = 0; piece < 4; piece++) {
            due("13: giver of " + piece, x.from(2, piece, 0), givers[piece]);
        }
        due("11: done", x.about(2, 9), 1);
    }

    private static void endAsksASecondGiver() {
        PieceSwarm x = swarm(1, 1, 0);
        x.peer(SEED, 8, 1);
        x.peer(SEED, 8, 1);
        x.peer(SEED, 8, 1);
        x.peer(PLAIN, 1, 8);
        for (int i = 0; i < 3; i++) {
            x.meet(i, 3);
        }
        due("10: asked twice, not thrice", x.tick(1), 2);
        due("13: the first to come", x.from(3, 0, 0), 0);
        due("16: the second asked has most still", x.pair(1, 3, 5), 1);
        due("16: the third is not asked", x.pair(2, 3, 5), 0);
        due("11: both came", x.about(3, 4), 2);
        due("11: one is spare", x.about(3, 6), 1);
        due("16: spare ones count as late", x.pair(1, 3, 4), 1);
        due("19: spare", x.count(10), 1);
        due("10: done ones ask nothing", x.tick(5), 0);
    }

    private static void endGoesByPieceAndBlock() {
        PieceSwarm x = swarm(2, 2, 0);
        x.peer(SEED, 4, 1);
        x.peer(SEED, 3, 1);
        x.peer(PLAIN, 1, 6);
        x.meet(0, 2);
        x.meet(1, 2);
        // 0 (4 to 3); like ones, 3 and 3: 0; then 1 (3 to 2); like ones, 2 and 2: 0. Left: 0 has 1, 1 has 2.
        due("10: four and two at the end", x.tick(1), 6);
        due("13: block 0, 0", x.from(2, 0, 0), 0);
        due("13: block 0, 1", x.from(2, 0, 1), 0);
        due("13: block 1, 0", x.from(2, 1, 0), 1);
        due("13: block 1, 1", x.from(2, 1, 1), 0);
        due("16: at the end twice of 1", x.pair(1, 2, 5), 3);
        due("16: and no more of 0", x.pair(0, 2, 5), 3);
        due("11: two spare", x.about(2, 6), 2);
    }

    private static void slowBlocksComeTwoTicksLater() {
        PieceSwarm x = slowOneThatSent();
        x.tick(1);
        due("10: tick 6: nothing came", x.about(2, 4), 0);
        x.tick(1);
        due("10: tick 7: both came", x.about(2, 9), 7);
        due("13: from the slow one", x.from(2, 0, 1), 1);
    }

    /** Seed 0 (up 2), FALSE 1 (up 3, each block false) that has got all, and 2, that is met by both; tick 4. */
    private static PieceSwarm falseOneAndSeed(int down) {
        PieceSwarm x = swarm(1, 2, 0);
        x.peer(SEED, 2, 1);
        x.peer(FALSE, 3, 2);
        x.peer(PLAIN, 1, down);
        x.meet(0, 1);
        x.tick(1);
        due("10: false one is done", x.about(1, 9), 1);
        x.often(1, 1);
        x.meet(0, 2);
        x.meet(1, 2);
        due("10: not open yet", x.tick(3), 0);
        return x;
    }

    private static void failOfTwoThenOfOneAlone() {
        PieceSwarm x = falseOneAndSeed(2);
        due("10: block 0 of 1, block 1 of 0", x.tick(1), 2);
        due("11: failed", x.about(2, 7), 1);
        due("11: marked", x.about(2, 8), 1);
        due("11: holds none", x.about(2, 3), 0);
        due("16: doubts the seed", x.pair(2, 0, 6), 1);
        due("16: doubts the false one", x.pair(2, 1, 6), 1);
        due("11: bans none", x.about(2, 11), 0);
        due("10: both of 1 alone", x.tick(1), 2);
        due("16: sent by 1", x.pair(1, 2, 5), 3);
        due("11: failed twice", x.about(2, 7), 2);
        due("11: one is marked", x.about(2, 8), 1);
        due("16: doubts once more", x.pair(2, 1, 6), 2);
        due("16: the seed not", x.pair(2, 0, 6), 1);
        due("16: bans it", x.pair(2, 1, 7), 1);
        due("16: is not banned", x.pair(1, 2, 7), 0);
        due("11: bans one", x.about(2, 11), 1);
        due("10: both of 0 alone", x.tick(1), 2);
        due("11: done", x.about(2, 9), 7);
        due("11: marked for good", x.about(2, 8), 1);
        due("19: failed", x.count(9), 2);
        due("11: six came", x.about(2, 4), 6);
    }

    private static void strandedMarkedPieceIsDropped() {
        for (int comesBack = 0; comesBack <= 1; comesBack++) {
            PieceSwarm x = falseOneAndSeed(1);
            x.tick(1);
            due("13: block 0 of the false one", x.from(2, 0, 0), 1);
            due("14: its value is false", x.got(2, 0, 0), x.value(0, 0) ^ 1);
            x.leave(1);
            x.tick(1);
            due("11: what a gone one gave is used, as it is not marked", x.about(2, 7), 1);
            x.tick(1);
            due("12: marked one begun anew", x.held(2, 0), 1);
            due("13: of the seed", x.from(2, 0, 0), 0);
            x.leave(0);
            due("12: held till a tick", x.held(2, 0), 1);
            if (comesBack == 1) {
                x.join(0);
            }
            due("10: not open", x.tick(1), 0);
            due("12: dropped if not near", x.held(2, 0), comesBack);
            due("13: from", x.from(2, 0, 0), comesBack == 1 ? 0 : NONE);
            due("14: got", x.got(2, 0, 0), comesBack == 1 ? x.value(0, 0) : 0);
        }
    }

    private static void bannedOneIsNotNear() {
        PieceSwarm x = swarm(2, 1, 0);
        x.peer(SEED, 8, 1);
        x.peer(FALSE, 1, 8);
        x.peer(PLAIN, 1, 1);
        x.meet(0, 1);
        x.tick(1);
        x.often(1, 1);
        x.meet(1, 2);
        x.tick(4);
        due("16: banned", x.pair(2, 1, 7), 1);
        due("16: neighbours still", x.pair(2, 1, 0), 1);
        due("11: neighbours still", x.about(2, 13), 1);
        due("16: not near", x.pair(2, 1, 1) + x.pair(1, 2, 1), 0);
        due("16: not open", x.pair(1, 2, 3), 0);
        due("16: not wanted", x.pair(1, 2, 2), 0);
        due("15: does not tell it", x.rare(2, 1), 0);
        due("10: gives it no more", x.tick(9), 0);
        x.leave(2);
        x.join(2);
        due("8: bans are kept", x.pair(2, 1, 7), 1);
        due("7: they have met", x.meet(1, 2), false);
    }

    private static void heldFromGot() {
        PieceSwarm x = swarm(2, 3, 4);
        x.peer(SEED, 4, 1);
        x.peer(PLAIN, 1, 4);
        x.meet(0, 1);
        due("12: nothing", x.held(1, 0), 0);
        x.tick(1);
        due("12: has", x.held(1, 0), 3);
        due("12: holds", x.held(1, 1), 1);
        due("12: a seed", x.held(0, 1), 3);
        due("13: has", x.from(1, 0, 2), 0);
        due("13: holds", x.from(1, 1, 0), 0);
        due("13: hasn't", x.from(1, 1, 1), NONE);
        due("13: a seed", x.from(0, 1, 1), NONE);
        due("14: has", x.got(1, 0, 2), x.value(0, 2));
        due("14: holds", x.got(1, 1, 0), x.value(1, 0));
        due("14: hasn't", x.got(1, 1, 1), 0);
        due("14: a seed", x.got(0, 1, 1), x.value(1, 1));
        due("11: has", x.about(1, 2), 1);
        due("11: holds of others", x.about(1, 3), 1);
        for (int bad : new int[] {-1, 2, 24, Integer.MIN_VALUE, Integer.MAX_VALUE}) {
            due("12: piece " + bad, x.held(1, bad), NONE);
            due("12: peer " + bad, x.held(bad, 0), NONE);
            due("13: piece " + bad, x.from(1, bad, 0), NONE);
            due("13: peer " + bad, x.from(bad, 0, 0), NONE);
            due("14: piece " + bad, x.got(0, bad, 0), 0);
            due("14: peer " + bad, x.got(bad, 0, 0), 0);
        }
        for (int bad : new int[] {-1, 3, 4, Integer.MIN_VALUE, Integer.MAX_VALUE}) {
            due("13: block " + bad, x.from(1, 0, bad), NONE);
            due("14: block " + bad, x.got(0, 0, bad), 0);
        }
    }

    private static void aboutEdges() {
        PieceSwarm x = swarm(1, 1, 0);
        x.peer(SHY, 1, 1);
        for (int bad : NOT_PEERS) {
            for (int what = 0; what <= 13; what++) {
                due("11: peer " + bad, x.about(bad, what), NONE);
            }
        }
        for (int bad : new int[] {-1, 14, Integer.MIN_VALUE, Integer.MAX_VALUE}) {
            due("11: what " + bad, x.about(0, bad), NONE);
        }
        int[] fresh = {SHY, 1, 0, 0, 0, 0, 0, 0, 0, NONE, 0, 0, 0, 0};
        for (int what = 0; what <= 13; what++) {
            due("11: what " + what, x.about(0, what), fresh[what]);
        }
    }

    private static void pairEdges() {
        PieceSwarm x = swarm(1, 1, 0);
        x.peer(PLAIN, 1, 1);
        x.peer(PLAIN, 1, 1);
        for (int what = 0; what <= 8; what++) {
            due("16: strangers, what " + what, x.pair(0, 1, what), 0);
            due("16: one and the same", x.pair(1, 1, what), NONE);
            for (int bad : NOT_PEERS) {
                due("16: a " + bad, x.pair(bad, 0, what), NONE);
                due("16: b " + bad, x.pair(0, bad, what), NONE);
            }
        }
        for (int bad : new int[] {-1, 9, Integer.MIN_VALUE, Integer.MAX_VALUE}) {
            due("16: what " + bad, x.pair(0, 1, bad), NONE);
        }
    }

    private static void aloneHereAndGone() {
        PieceSwarm x = swarm(3, 1, 0);
        x.peer(SEED, 1, 1);
        x.peer(PLAIN, 1, 1);
        x.meet(0, 1);
        x.tick(2);
        due("17: none is missing", x.alone(NONE), 0);
        due("17: the seed alone has one", x.alone(0), 1);
        due("17: the other none", x.alone(1), 0);
        x.leave(0);
        due("17: one is missing", x.alone(NONE), 1);
        due("17: the other has two", x.alone(1), 2);
        due("17: the gone one has one that none here has", x.alone(0), 1);
        x.leave(1);
        due("17: all are missing", x.alone(NONE), 3);
        for (int bad : new int[] {-2, 2, 12, Integer.MIN_VALUE, Integer.MAX_VALUE}) {
            due("17: peer " + bad, x.alone(bad), NONE);
        }
    }

    private static void boundIsTheGreatest() {
        PieceSwarm x = swarm(5, 3, 0);
        x.peer(SEED, 2, 8);
        due("18: no other one", x.bound(0), NONE);
        x.peer(PLAIN, 8, 8);
        due("18: 15 by the up rate 2", x.bound(0), 8);
        x.peer(FREE, 8, 1);
        due("18: 15 by the down rate 1", x.bound(0), 15);
        x.leave(2);
        due("18: gone ones do not count", x.bound(0), 8);

        PieceSwarm y = swarm(5, 3, 0);
        y.peer(SEED, 8, 1);
        for (int i = 0; i < 6; i++) {
            y.peer(PLAIN, 1, 8);
        }
        due("18: 90 by 14 together", y.bound(0), 7);
        for (int i = 0; i < 5; i++) {
            y.peer(PLAIN, 1, 8);
        }
        due("18: 165 by 19 together", y.bound(0), 9);
    }

    private static void boundNeedsBareOthers() {
        PieceSwarm x = slowOneThatSent();
        due("18: something is coming to 2", x.bound(1), NONE);
        x.leave(2);
        due("18: and to 3", x.bound(1), NONE);
        x.join(2);
        x.leave(3);
        due("18: 2 has lost it: 2 by its down rate", x.bound(1), 1);
        due("18: gone", x.bound(0), NONE);
        due("18: not done", x.bound(2), NONE);
        x.join(0);
        due("18: another one has all", x.bound(1), NONE);
        for (int bad : NOT_PEERS) {
            due("18: peer " + bad, x.bound(bad), NONE);
        }
        due("18: peer 4", x.bound(4), NONE);

        PieceSwarm y = swarm(1, 2, 0);
        y.peer(SEED, 1, 1);
        y.peer(PLAIN, 1, 1);
        y.meet(0, 1);
        due("18: two", y.bound(0), 2);
        y.tick(1);
        due("18: it holds one", y.bound(0), NONE);
        y.leave(1);
        due("18: none is left", y.bound(0), NONE);
    }

    private static void counts() {
        PieceSwarm x = slowOneThatSent();
        int[] counts = {5, 4, 3, 1, 1, 2, 5, 3, 0, 0, 0};
        for (int what = 0; what <= 10; what++) {
            due("19: what " + what, x.count(what), counts[what]);
        }
        for (int bad : new int[] {-1, 11, Integer.MIN_VALUE, Integer.MAX_VALUE}) {
            due("19: what " + bad, x.count(bad), NONE);
        }
    }
}
