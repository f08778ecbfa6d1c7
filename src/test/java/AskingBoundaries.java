/** Promise 10 at its edges: the ROUNDS, which BLOCK is asked, of whom, and the END. */
final class AskingBoundaries implements Terms {
    private AskingBoundaries() {
    }

    /** SEED 0 and three takers that all ask as much as they can: each up rate is dealt out by their numbers. */
    static void promise10RoundsGoByNumbers(Checks checks) {
        for (int up = 1; up <= 8; up++) {
            PieceSwarm x = Swarms.swarm(24, 4);
            x.peer(SEED, up, 1);
            Swarms.add(x, 3, PLAIN, 1, 8);
            Swarms.meetAll(x, 0, 1, 3);
            checks.due("up rate " + up, x.tick(1), up);
            for (int i = 1; i <= 3; i++) {
                checks.due("up rate " + up + ": to " + i, x.pair(0, i, 5), (up + 3 - i) / 3);
            }
        }
    }

    static void promise10ADownRateIsEachTakersOwn(Checks checks) {
        PieceSwarm x = Swarms.swarm(24, 4);
        x.peer(SEED, 8, 1);
        int[] down = {0, 1, 5, 2};
        for (int i = 1; i <= 3; i++) {
            x.peer(PLAIN, 1, down[i]);
            x.meet(0, i);
        }
        checks.due("all that they may ask", x.tick(1), 8);
        for (int i = 1; i <= 3; i++) {
            checks.due("to " + i, x.pair(0, i, 5), down[i]);
        }
    }

    static void promise10OnePieceOfOneBlock(Checks checks) {
        PieceSwarm x = Swarms.seedAndTaker(1, 1, 8, 8);
        checks.due("one BLOCK", x.tick(1), 1);
        checks.due("DONE", x.about(1, 9), 1);
        checks.due("no more", x.tick(50), 0);
    }

    static void promise10TwentyFourPiecesOfFourBlocks(Checks checks) {
        PieceSwarm x = Swarms.seedAndTaker(24, 4, 8, 8);
        checks.due("11 ticks", x.tick(11), 88);
        checks.due("not DONE", x.about(1, 9), NONE);
        checks.due("PIECES", x.about(1, 2), 22);
        checks.due("the 12th", x.tick(1), 8);
        checks.due("DONE", x.about(1, 9), 12);
        checks.due("no more", x.tick(50), 0);
        for (int piece = 0; piece < 24; piece++) {
            for (int block = 0; block < 4; block++) {
                checks.due("got(1, " + piece + ", " + block + ")", x.got(1, piece, block), x.value(piece, block));
            }
        }
    }

    static void promise10NinetySixTicksOfOneBlock(Checks checks) {
        PieceSwarm x = Swarms.seedAndTaker(24, 4, 1, 1);
        checks.due("50", x.tick(50), 50);
        checks.due("45", x.tick(45), 45);
        checks.due("one BLOCK short of DONE", x.about(1, 9), NONE);
        checks.due("HAS", x.about(1, 2), 23);
        checks.due("HOLDS", x.about(1, 3), 3);
        checks.due("the last and no more", x.tick(50), 1);
        checks.due("DONE", x.about(1, 9), 96);
    }

    static void promise10TwelvePeersThatAllMet(Checks checks) {
        PieceSwarm x = Swarms.swarm(24, 4);
        x.peer(SEED, 8, 8);
        Swarms.add(x, 11, PLAIN, 8, 8);
        for (int a = 0; a < 12; a++) {
            Swarms.meetAll(x, a, a + 1, 11);
        }
        int sent = x.tick(50) + x.tick(50);
        checks.due("all are DONE", x.count(3), 12);
        int came = 0;
        for (int p = 1; p < 12; p++) {
            checks.due("came to " + p + ", not SPARE", x.about(p, 4) - x.about(p, 6), 96);
            came += x.about(p, 4);
        }
        checks.due("all that was sent came", came, sent);
        checks.due("sent in all", x.count(6), sent);
        checks.due("no more", x.tick(1), 0);
    }

    static void promise10OfLikePiecesTheLeastNumber(Checks checks) {
        PieceSwarm x = Swarms.seedAndTaker(24, 1, 1, 1);
        for (int piece = 0; piece < 24; piece++) {
            checks.due("not yet", x.held(1, piece), 0);
            x.tick(1);
            checks.due("now", x.held(1, piece), 1);
        }
    }

    static void promise10BlocksByTheirNumbers(Checks checks) {
        PieceSwarm x = Swarms.seedAndTaker(2, 4, 1, 1);
        for (int block = 0; block < 4; block++) {
            checks.due("not yet", x.from(1, 0, block), NONE);
            x.tick(1);
            checks.due("now", x.from(1, 0, block), 0);
            checks.due("none of the next PIECE", x.held(1, 1), 0);
        }
    }

    /**
     * 3 asked BLOCK 0 of PIECE 0 of SLOW 1 in tick 5, where both PIECES were like. Then it meets 2, which TELLS of
     * PIECE 0: PIECE 1 is rarer, but PIECE 0 is begun by what is COMING alone.
     */
    static void promise10APieceIsBegunByWhatIsComing(Checks checks) {
        PieceSwarm x = Swarms.swarm(2, 2);
        x.peer(SEED, 8, 1);
        x.peer(SLOW, 1, 8);
        x.peer(PLAIN, 1, 2);
        x.peer(PLAIN, 1, 1);
        x.meet(0, 1);
        x.meet(0, 2);
        x.tick(1);
        x.leave(0);
        x.meet(1, 3);
        checks.due("tick 5", x.tick(4), 1);
        x.meet(2, 3);
        checks.due("two TELL of 0", x.rare(3, 0), 2);
        checks.due("one TELLS of 1", x.rare(3, 1), 1);
        checks.due("tick 6", x.tick(1), 1);
        checks.due("HELD in tick 6", x.about(3, 3), 0);
        x.tick(2);
        checks.due("both of PIECE 0 came till tick 8", x.held(3, 0), 2);
        checks.due("none of PIECE 1", x.held(3, 1), 0);
    }

    /** FREE 1 has PIECE 0 and opens to nobody; yet it TELLS, and so PIECE 1 is the rarer one. */
    static void promise10RareByAllThatAreNear(Checks checks) {
        PieceSwarm x = Swarms.swarm(2, 1);
        x.peer(SEED, 8, 1);
        x.peer(FREE, 1, 1);
        x.peer(PLAIN, 1, 1);
        x.meet(0, 1);
        x.tick(1);
        x.leave(1);
        x.join(1);
        x.meet(0, 2);
        x.meet(1, 2);
        x.tick(3);
        checks.due("tick 5", x.tick(1), 2);
        checks.due("PIECE 1", x.held(2, 1), 1);
        checks.due("not PIECE 0", x.held(2, 0), 0);
    }

    /** SHY 1 has both PIECES and TELLS of 0 alone; so PIECE 1 is the rarer one. */
    static void promise10RareByWhatShyOnesTell(Checks checks) {
        PieceSwarm x = Swarms.swarm(2, 1);
        x.peer(SEED, 8, 1);
        x.peer(SHY, 1, 8);
        x.peer(PLAIN, 1, 1);
        x.meet(0, 1);
        x.tick(4);
        x.meet(0, 2);
        x.meet(1, 2);
        checks.due("tick 5", x.tick(1), 1);
        checks.due("PIECE 1", x.held(2, 1), 1);
    }

    static void promise10OfLikeGiversTheLeastNumber(Checks checks) {
        PieceSwarm x = Swarms.swarm(4, 1);
        Swarms.add(x, 2, SEED, 2, 1);
        x.peer(PLAIN, 1, 4);
        Swarms.meetAll(x, 2, 0, 1);
        checks.due("four", x.tick(1), 4);
        for (int piece = 0; piece < 4; piece++) {
            checks.due("PIECE " + piece, x.from(2, piece, 0), piece % 2);
        }
    }

    static void promise10AGiverThatMaySendNoMoreIsNone(Checks checks) {
        PieceSwarm x = Swarms.swarm(24, 4);
        Swarms.add(x, 2, SEED, 1, 1);
        x.peer(PLAIN, 1, 8);
        Swarms.meetAll(x, 2, 0, 1);
        checks.due("one of each", x.tick(1), 2);
        checks.due("of 0", x.from(2, 0, 0), 0);
        checks.due("of 1", x.from(2, 0, 1), 1);
    }

    /** Giver 1 is open to 2 and may send more than SEED 0, but TELLS of PIECE 0 alone: PIECE 1, the rarer, is of 0. */
    static void promise10OnlyAGiverThatTellsOfThePiece(Checks checks) {
        PieceSwarm x = Swarms.swarm(2, 1);
        x.peer(SEED, 2, 1);
        x.peer(PLAIN, 8, 1);
        x.peer(PLAIN, 1, 8);
        x.meet(0, 1);
        x.tick(1);
        x.leave(1);
        x.join(1);
        Swarms.meetAll(x, 2, 0, 1);
        x.tick(3);
        checks.due("tick 5: one to 1, two to 2", x.tick(1), 3);
        checks.due("PIECE 1 from 0", x.from(2, 1, 0), 0);
        checks.due("PIECE 0 from 1", x.from(2, 0, 0), 1);
    }

    static void promise10NoEndWhileAPieceCanBeAsked(Checks checks) {
        PieceSwarm x = Swarms.swarm(2, 1);
        Swarms.add(x, 2, SEED, 8, 1);
        x.peer(PLAIN, 1, 2);
        Swarms.meetAll(x, 2, 0, 1);
        checks.due("two", x.tick(1), 2);
        checks.due("DONE", x.about(2, 9), 1);
        checks.due("none is SPARE", x.about(2, 6), 0);
    }

    static void promise10EndNotOfTheOneWhoSentIt(Checks checks) {
        PieceSwarm x = Swarms.seedAndTaker(1, 1, 8, 8);
        checks.due("one", x.tick(1), 1);
        checks.due("none is SPARE", x.about(1, 6), 0);
    }

    static void promise10EndAsksTwiceAndNotThrice(Checks checks) {
        for (int givers = 1; givers <= 4; givers++) {
            PieceSwarm x = Swarms.swarm(1, 1);
            Swarms.add(x, givers, SEED, 8, 1);
            x.peer(PLAIN, 1, 8);
            Swarms.meetAll(x, givers, 0, givers - 1);
            checks.due("of " + givers, x.tick(1), Math.min(givers, 2));
            checks.due("SPARE of " + givers, x.about(givers, 6), Math.min(givers, 2) - 1);
            checks.due("the first to come is HELD", x.from(givers, 0, 0), 0);
        }
    }

    /**
     * All four BLOCKS are asked of SLOW 1, which may send the most; at the END as many as the down rate leaves are
     * asked of SEED 0, and these come at once.
     */
    static void promise10EndGoesByPieceThenBlock(Checks checks) {
        for (int more = 0; more <= 4; more++) {
            PieceSwarm x = Swarms.swarm(2, 2);
            x.peer(SEED, 4, 1);
            x.peer(SLOW, 8, 8);
            x.peer(PLAIN, 1, 4 + more);
            x.meet(0, 1);
            x.tick(4);
            Swarms.meetAll(x, 2, 0, 1);
            checks.due("tick 5", x.tick(1), 4 + more);
            checks.due("of SLOW 1", x.pair(1, 2, 5), 4);
            for (int i = 0; i < 4; i++) {
                checks.due("at the END " + more + ", BLOCK " + i, x.from(2, i / 2, i % 2), i < more ? 0 : NONE);
            }
        }
    }

    /** Tick 5: (0, 0) of 0, (0, 1) of 1, at the END (0, 0) of 1, which is SLOW, then the down rate 3 is spent. */
    private static PieceSwarm oneHeldAndBothComing() {
        PieceSwarm x = Swarms.swarm(1, 2);
        x.peer(SEED, 2, 1);
        x.peer(SLOW, 2, 8);
        x.peer(PLAIN, 1, 3);
        x.meet(0, 1);
        x.tick(4);
        Swarms.meetAll(x, 2, 0, 1);
        x.tick(1);
        return x;
    }

    static void promise10EndNotOfAHeldBlock(Checks checks) {
        PieceSwarm x = oneHeldAndBothComing();
        checks.due("SLOW 1 sent two", x.pair(1, 2, 5), 2);
        checks.due("COMING", x.about(2, 10), 2);
        checks.due("HELD from 0", x.from(2, 0, 0), 0);
        checks.due("tick 6: (0, 1) alone is asked again, of 0", x.tick(1), 1);
        checks.due("it came at once", x.from(2, 0, 1), 0);
        checks.due("DONE", x.about(2, 9), 6);
    }

    static void promise10EndNotOfAPieceThatItHas(Checks checks) {
        PieceSwarm x = oneHeldAndBothComing();
        x.tick(1);
        checks.due("DONE in tick 6", x.about(2, 9), 6);
        checks.due("yet two are COMING", x.about(2, 10), 2);
        checks.due("nothing is asked", x.tick(1), 0);
        checks.due("they came and are SPARE", x.about(2, 6), 2);
    }

    /** 1 and SLOW 2 have PIECE 0 alone, and both give it to 3: it then lacks PIECE 1, of which nobody TELLS. */
    static void promise10EndNotOfAPieceThatItHasWhileItLacksOthers(Checks checks) {
        PieceSwarm x = Swarms.swarm(2, 1);
        x.peer(SEED, 2, 1);
        x.peer(PLAIN, 1, 1);
        x.peer(SLOW, 1, 1);
        x.peer(PLAIN, 1, 2);
        Swarms.meetAll(x, 0, 1, 2);
        x.tick(1);
        x.leave(0);
        x.tick(3);
        Swarms.meetAll(x, 3, 1, 2);
        checks.due("tick 5: of 1, at the END of 2", x.tick(1), 2);
        checks.due("HAS PIECE 0", x.held(3, 0), 1);
        checks.due("it is COMING once", x.about(3, 10), 1);
        checks.due("tick 6: not asked of 1 again", x.tick(1), 0);
    }

    /**
     * Tick 5: (0, 0) of 1, (0, 1) of 0, at the END (0, 0) of 0 and (0, 1) of 1. The first two FAIL together, then (0,
     * 0) of 0 is HELD, and (0, 1) of 1 is SPARE. Tick 6: of 0 alone, and as the PIECE is MARKED there is no END.
     */
    static void promise10EndNotOfAMarkedPiece(Checks checks) {
        PieceSwarm x = Swarms.seedAndFalseOne(2, 2, 3, 8);
        checks.due("tick 5", x.tick(1), 4);
        checks.due("FAILED", x.about(2, 7), 1);
        checks.due("HELD from 0", x.from(2, 0, 0), 0);
        checks.due("SPARE", x.about(2, 6), 1);
        checks.due("tick 6", x.tick(1), 1);
        checks.due("DONE", x.about(2, 9), 6);
        checks.due("from 0", x.from(2, 0, 1), 0);
    }

    static void promise10EndOfTheGiverWhoMaySendTheMost(Checks checks) {
        PieceSwarm x = Swarms.swarm(1, 1);
        x.peer(SEED, 8, 1);
        x.peer(SEED, 2, 1);
        x.peer(SEED, 3, 1);
        x.peer(SEED, 3, 1);
        x.peer(PLAIN, 1, 8);
        Swarms.meetAll(x, 4, 0, 3);
        checks.due("two", x.tick(1), 2);
        int[] sent = {1, 0, 1, 0};
        for (int i = 0; i < 4; i++) {
            checks.due("of " + i, x.pair(i, 4, 5), sent[i]);
        }
    }
}
