/** Promise 10 at its edges: the ROUNDS, which BLOCK is asked, of whom, and the END. */
final class AskingBoundaries implements Terms {
    private AskingBoundaries() {
    }

    /** SEED 0 and three takers that all ask as much as they can: each up rate is dealt out by their numbers. */
    @Holds("ROUNDS: PEERS that are HERE, by numbers, each asks one BLOCK,")
    static void promise10RoundsGoByNumbers(Checks checks) {
        for (int up = 1; up <= 8; up++) {
            PieceSwarm x = Swarms.swarm(24, 4);
            x.peer(SEED, up, 1);
            Swarms.add(x, 3, PLAIN, 1, 8);
            Swarms.meetAll(x, 0, 1, 3);
            checks.due("up rate " + up, x.tick(1), up);
            for (int i = 1; i <= 3; i++) {
                checks.due("up rate " + up + ": to " + i, x.pair(0, i, 5), (up + 3 - i) / 3);
            }
        }
    }

    @Holds("if it may and can; till a whole ROUND in which none was asked.")
    static void promise10ADownRateIsEachTakersOwn(Checks checks) {
        PieceSwarm x = Swarms.swarm(24, 4);
        x.peer(SEED, 8, 1);
        int[] down = {0, 1, 5, 2};
        for (int i = 1; i <= 3; i++) {
            x.peer(PLAIN, 1, down[i]);
            x.meet(0, i);
        }
        checks.due("all that they may ask", x.tick(1), 8);
        for (int i = 1; i <= 3; i++) {
            checks.due("to " + i, x.pair(0, i, 5), down[i]);
        }
    }

    static void promise10OnePieceOfOneBlock(Checks checks) {
        PieceSwarm x = Swarms.seedAndTaker(1, 1, 8, 8);
        checks.due("one BLOCK", x.tick(1), 1);
        checks.due("DONE", x.about(1, 9), 1);
        checks.due("no more", x.tick(50), 0);
    }

    static void promise10TwentyFourPiecesOfFourBlocks(Checks checks) {
        PieceSwarm x = Swarms.seedAndTaker(24, 4, 8, 8);
        checks.due("11 ticks", x.tick(11), 88);
        checks.due("not DONE", x.about(1, 9), NONE);
        checks.due("PIECES", x.about(1, 2), 22);
        checks.due("the 12th", x.tick(1), 8);
        checks.due("DONE", x.about(1, 9), 12);
        checks.due("no more", x.tick(50), 0);
        for (int piece = 0; piece < 24; piece++) {
            for (int block = 0; block < 4; block++) {
                checks.due("got(1, " + piece + ", " + block + ")", x.got(1, piece, block), x.value(piece, block));
            }
        }
    }

    static void promise10NinetySixTicksOfOneBlock(Checks checks) {
        PieceSwarm x = Swarms.seedAndTaker(24, 4, 1, 1);
        checks.due("50", x.tick(50), 50);
        checks.due("45", x.tick(45), 45);
        checks.due("one BLOCK short of DONE", x.about(1, 9), NONE);
        checks.due("HAS", x.about(1, 2), 23);
        checks.due("HOLDS", x.about(1, 3), 3);
        checks.due("the last and no more", x.tick(50), 1);
        checks.due("DONE", x.about(1, 9), 96);
    }

    @Holds("A file cut in pieces that strangers hand about, tick by tick:")
    static void promise10TwelvePeersThatAllMet(Checks checks) {
        PieceSwarm x = Swarms.swarm(24, 4);
        x.peer(SEED, 8, 8);
        Swarms.add(x, 11, PLAIN, 8, 8);
        for (int a = 0; a < 12; a++) {
            Swarms.meetAll(x, a, a + 1, 11);
        }
        int sent = x.tick(50) + x.tick(50);
        checks.due("all are DONE", x.count(3), 12);
        int came = 0;
        for (int p = 1; p < 12; p++) {
            checks.due("came to " + p + ", not SPARE", x.about(p, 4) - x.about(p, 6), 96);
            came += x.about(p, 4);
        }
        checks.due("all that was sent came", came, sent);
        checks.due("sent in all", x.count(6), sent);
        checks.due("no more", x.tick(1), 0);
    }

    @Holds("of like ones the least number.")
    static void promise10OfLikePiecesTheLeastNumber(Checks checks) {
        PieceSwarm x = Swarms.seedAndTaker(24, 1, 1, 1);
        for (int piece = 0; piece < 24; piece++) {
            checks.due("not yet", x.held(1, piece), 0);
            x.tick(1);
            checks.due("now", x.held(1, piece), 1);
        }
    }

    @Holds("Of it the BLOCK of the least number")
    static void promise10BlocksByTheirNumbers(Checks checks) {
        PieceSwarm x = Swarms.seedAndTaker(2, 4, 1, 1);
        for (int block = 0; block < 4; block++) {
            checks.due("not yet", x.from(1, 0, block), NONE);
            x.tick(1);
            checks.due("now", x.from(1, 0, block), 0);
            checks.due("none of the next PIECE", x.held(1, 1), 0);
        }
    }

    /** 2 HOLDS (0, 0) when it meets 1, which TELLS of PIECE 0, too: PIECE 1 is rarer, but PIECE 0 is begun. */
    @Holds("First come PIECES of which d HOLDS a BLOCK,")
    static void promise10APieceIsBegunByWhatIsHeld(Checks checks) {
        PieceSwarm x = Swarms.swarm(2, 2);
        x.peer(SEED, 8, 1);
        x.peer(PLAIN, 8, 2);
        x.peer(PLAIN, 1, 1);
        Swarms.meetAll(x, 0, 1, 2);
        checks.due("tick 1", x.tick(1), 3);
        x.meet(1, 2);
        checks.due("two TELL of 0", x.rare(2, 0), 2);
        checks.due("one TELLS of 1", x.rare(2, 1), 1);
        x.tick(1);
        checks.due("both of PIECE 0", x.held(2, 0), 2);
        checks.due("none of PIECE 1", x.held(2, 1), 0);
    }

    /**
     * 3 asked BLOCK 0 of PIECE 0 of SLOW 1 in tick 5, where both PIECES were like. Then it meets 2, which TELLS of
     * PIECE 0: PIECE 1 is rarer, but PIECE 0 is begun by what is COMING alone.
     */
    @Holds("or one is COMING to it;")
    static void promise10APieceIsBegunByWhatIsComing(Checks checks) {
        PieceSwarm x = Swarms.swarm(2, 2);
        x.peer(SEED, 8, 1);
        x.peer(SLOW, 1, 8);
        x.peer(PLAIN, 1, 2);
        x.peer(PLAIN, 1, 1);
        x.meet(0, 1);
        x.meet(0, 2);
        x.tick(1);
        x.leave(0);
        x.meet(1, 3);
        checks.due("tick 5", x.tick(4), 1);
        x.meet(2, 3);
        checks.due("two TELL of 0", x.rare(3, 0), 2);
        checks.due("one TELLS of 1", x.rare(3, 1), 1);
        checks.due("tick 6", x.tick(1), 1);
        checks.due("HELD in tick 6", x.about(3, 3), 0);
        x.tick(2);
        checks.due("both of PIECE 0 came till tick 8", x.held(3, 0), 2);
        checks.due("none of PIECE 1", x.held(3, 1), 0);
    }

    /** FREE 1 has PIECE 0 and opens to nobody; yet it TELLS, and so PIECE 1 is the rarer one. */
    @Holds({
        "rare pieces are asked first,",
        "and then of others, those of which the fewest of all that are NEAR to d TELL;"})
    static void promise10RareByAllThatAreNear(Checks checks) {
        PieceSwarm x = Swarms.swarm(2, 1);
        x.peer(SEED, 8, 1);
        x.peer(FREE, 1, 1);
        x.peer(PLAIN, 1, 1);
        x.meet(0, 1);
        x.tick(1);
        x.leave(1);
        x.join(1);
        x.meet(0, 2);
        x.meet(1, 2);
        x.tick(3);
        checks.due("tick 5", x.tick(1), 2);
        checks.due("PIECE 1", x.held(2, 1), 1);
        checks.due("not PIECE 0", x.held(2, 0), 0);
    }

    /** SHY 1 has both PIECES and TELLS of 0 alone; so PIECE 1 is the rarer one. */
    static void promise10RareByWhatShyOnesTell(Checks checks) {
        PieceSwarm x = Swarms.swarm(2, 1);
        x.peer(SEED, 8, 1);
        x.peer(SHY, 1, 8);
        x.peer(PLAIN, 1, 1);
        x.meet(0, 1);
        x.tick(4);
        x.meet(0, 2);
        x.meet(1, 2);
        checks.due("tick 5", x.tick(1), 1);
        checks.due("PIECE 1", x.held(2, 1), 1);
    }

    /**
     * 1 HAS PIECE 0 and is open to FREE 2, which HAS PIECE 1, which 1 WANTS: but a FREE one is open to nobody, and so
     * it gives nothing, though 1 is open to it.
     */
    @Holds("GIVERS of d: those NEAR to which it is open (they are open to d),")
    static void promise10GiversAreOpenToTheTaker(Checks checks) {
        PieceSwarm x = Swarms.swarm(2, 1);
        x.peer(SEED, 1, 1);
        x.peer(PLAIN, 1, 1);
        x.peer(FREE, 1, 1);
        x.peer(SEED, 1, 1);
        x.meet(0, 1);
        x.tick(1);
        x.leave(0);
        x.tick(3);
        Swarms.meetAll(x, 2, 1, 1);
        x.meet(2, 3);
        checks.due("tick 5: PIECE 1, the rarer", x.tick(1), 1);
        checks.due("of 3", x.from(2, 1, 0), 3);
        x.leave(3);
        checks.due("1 is open to 2", x.pair(1, 2, 3), 1);
        checks.due("1 WANTS of 2", x.pair(2, 1, 2), 1);
        checks.due("tick 6: one, to 2", x.tick(1), 1);
        checks.due("of 1", x.from(2, 0, 0), 1);
        checks.due("none to 1", x.tick(8), 0);
        checks.due("1 HAS one", x.about(1, 2), 1);
    }

    /**
     * 2 HOLDS a BLOCK of PIECE 1, which it had of SEED 0, and one of PIECE 0, of 1. In tick 9 SEED 0 alone TELLS of
     * PIECE 1, so this comes first; in tick 10 1 TELLS of it, too, so of the like ones PIECE 0 does.
     */
    @Holds("of these, and then of others, those of which the fewest of all that are NEAR to d TELL; of like ones the "
        + "least number.")
    static void promise10OfBegunPiecesTheRarestThenTheLeast(Checks checks) {
        PieceSwarm x = Swarms.swarm(2, 3);
        x.peer(SEED, 3, 1);
        x.peer(PLAIN, 1, 3);
        x.peer(PLAIN, 1, 1);
        x.meet(0, 1);
        checks.due("tick 1: PIECE 0 to 1", x.tick(1), 3);
        x.leave(1);
        x.join(1);
        Swarms.meetAll(x, 2, 0, 1);
        checks.due("tick 5: two of PIECE 1 to 1, one to 2", x.tick(4), 3);
        x.leave(0);
        checks.due("tick 6: one of PIECE 0 to 2", x.tick(1), 1);
        x.leave(1);
        x.join(1);
        x.join(0);
        checks.due("ticks 7 and 8: nobody is open", x.tick(2), 0);
        checks.due("PIECE 0 is begun", x.held(2, 0), 1);
        checks.due("PIECE 1 is begun", x.held(2, 1), 1);
        checks.due("two TELL of PIECE 0", x.rare(2, 0), 2);
        checks.due("one TELLS of PIECE 1", x.rare(2, 1), 1);
        x.tick(1);
        checks.due("tick 9: PIECE 1", x.held(2, 1), 2);
        checks.due("tick 9: not PIECE 0", x.held(2, 0), 1);
        checks.due("two TELL of PIECE 1 now", x.rare(2, 1), 2);
        x.tick(1);
        checks.due("tick 10: PIECE 0", x.held(2, 0), 2);
        checks.due("tick 10: not PIECE 1", x.held(2, 1), 2);
    }

    /** In tick 5 SLOW 1 sends (0, 0), which is lost as it goes, and SEED 0 (0, 1): so (0, 0) and then (0, 2) follow. */
    @Holds({
        "that is neither HELD nor COMING is asked,",
        "A PIECE that d hasn't can be asked, if a BLOCK of it is neither HELD by d nor COMING to it,"})
    static void promise10TheLeastBlockThatIsNeitherHeldNorComing(Checks checks) {
        PieceSwarm x = Swarms.swarm(1, 4);
        x.peer(SEED, 1, 1);
        x.peer(SLOW, 2, 8);
        x.peer(PLAIN, 1, 2);
        x.meet(0, 1);
        x.tick(4);
        Swarms.meetAll(x, 2, 0, 1);
        checks.due("tick 5", x.tick(1), 2);
        checks.due("(0, 1) of 0", x.from(2, 0, 1), 0);
        x.leave(1);
        checks.due("(0, 0) is lost", x.count(8), 1);
        checks.due("tick 6", x.tick(1), 1);
        checks.due("(0, 0) of 0", x.from(2, 0, 0), 0);
        checks.due("not (0, 2)", x.from(2, 0, 2), NONE);
        checks.due("tick 7", x.tick(1), 1);
        checks.due("(0, 2) of 0", x.from(2, 0, 2), 0);
        checks.due("not (0, 3)", x.from(2, 0, 3), NONE);
    }

    @Holds({
        "What was asked is sent at once.",
        "of the GIVER (that may be) who may send the most still, of like ones the least number."})
    static void promise10OfLikeGiversTheLeastNumber(Checks checks) {
        PieceSwarm x = Swarms.swarm(4, 1);
        Swarms.add(x, 2, SEED, 2, 1);
        x.peer(PLAIN, 1, 4);
        Swarms.meetAll(x, 2, 0, 1);
        checks.due("four", x.tick(1), 4);
        for (int piece = 0; piece < 4; piece++) {
            checks.due("PIECE " + piece, x.from(2, piece, 0), piece % 2);
        }
    }

    @Holds("that may send still.")
    static void promise10AGiverThatMaySendNoMoreIsNone(Checks checks) {
        PieceSwarm x = Swarms.swarm(24, 4);
        Swarms.add(x, 2, SEED, 1, 1);
        x.peer(PLAIN, 1, 8);
        Swarms.meetAll(x, 2, 0, 1);
        checks.due("one of each", x.tick(1), 2);
        checks.due("of 0", x.from(2, 0, 0), 0);
        checks.due("of 1", x.from(2, 0, 1), 1);
    }

    /** Giver 1 is open to 2 and may send more than SEED 0, but TELLS of PIECE 0 alone: PIECE 1, the rarer, is of 0. */
    @Holds("and a GIVER TELLS of it;")
    static void promise10OnlyAGiverThatTellsOfThePiece(Checks checks) {
        PieceSwarm x = Swarms.swarm(2, 1);
        x.peer(SEED, 2, 1);
        x.peer(PLAIN, 8, 1);
        x.peer(PLAIN, 1, 8);
        x.meet(0, 1);
        x.tick(1);
        x.leave(1);
        x.join(1);
        Swarms.meetAll(x, 2, 0, 1);
        x.tick(3);
        checks.due("tick 5: one to 1, two to 2", x.tick(1), 3);
        checks.due("PIECE 1 from 0", x.from(2, 1, 0), 0);
        checks.due("PIECE 0 from 1", x.from(2, 0, 0), 1);
    }

    @Holds("If no PIECE can be asked so: the END:")
    static void promise10NoEndWhileAPieceCanBeAsked(Checks checks) {
        PieceSwarm x = Swarms.swarm(2, 1);
        Swarms.add(x, 2, SEED, 8, 1);
        x.peer(PLAIN, 1, 2);
        Swarms.meetAll(x, 2, 0, 1);
        checks.due("two", x.tick(1), 2);
        checks.due("DONE", x.about(2, 9), 1);
        checks.due("none is SPARE", x.about(2, 6), 0);
    }

    @Holds("and of which a GIVER TELLS who is not the one who sent it:")
    static void promise10EndNotOfTheOneWhoSentIt(Checks checks) {
        PieceSwarm x = Swarms.seedAndTaker(1, 1, 8, 8);
        checks.due("one", x.tick(1), 1);
        checks.due("none is SPARE", x.about(1, 6), 0);
    }

    @Holds("is COMING to d once alone,")
    static void promise10EndAsksTwiceAndNotThrice(Checks checks) {
        for (int givers = 1; givers <= 4; givers++) {
            PieceSwarm x = Swarms.swarm(1, 1);
            Swarms.add(x, givers, SEED, 8, 1);
            x.peer(PLAIN, 1, 8);
            Swarms.meetAll(x, givers, 0, givers - 1);
            checks.due("of " + givers, x.tick(1), Math.min(givers, 2));
            checks.due("SPARE of " + givers, x.about(givers, 6), Math.min(givers, 2) - 1);
            checks.due("the first to come is HELD", x.from(givers, 0, 0), 0);
        }
    }

    /**
     * All four BLOCKS are asked of SLOW 1, which may send the most; at the END as many as the down rate leaves are
     * asked of SEED 0, and these come at once.
     */
    @Holds("the first BLOCK (by PIECE, then BLOCK)")
    static void promise10EndGoesByPieceThenBlock(Checks checks) {
        for (int more = 0; more <= 4; more++) {
            PieceSwarm x = Swarms.swarm(2, 2);
            x.peer(SEED, 4, 1);
            x.peer(SLOW, 8, 8);
            x.peer(PLAIN, 1, 4 + more);
            x.meet(0, 1);
            x.tick(4);
            Swarms.meetAll(x, 2, 0, 1);
            checks.due("tick 5", x.tick(1), 4 + more);
            checks.due("of SLOW 1", x.pair(1, 2, 5), 4);
            for (int i = 0; i < 4; i++) {
                checks.due("at the END " + more + ", BLOCK " + i, x.from(2, i / 2, i % 2), i < more ? 0 : NONE);
            }
        }
    }

    /** Tick 5: (0, 0) of 0, (0, 1) of 1, at the END (0, 0) of 1, which is SLOW, then the down rate 3 is spent. */
    private static PieceSwarm oneHeldAndBothComing() {
        PieceSwarm x = Swarms.swarm(1, 2);
        x.peer(SEED, 2, 1);
        x.peer(SLOW, 2, 8);
        x.peer(PLAIN, 1, 3);
        x.meet(0, 1);
        x.tick(4);
        Swarms.meetAll(x, 2, 0, 1);
        x.tick(1);
        return x;
    }

    @Holds("that isn't HELD,")
    static void promise10EndNotOfAHeldBlock(Checks checks) {
        PieceSwarm x = oneHeldAndBothComing();
        checks.due("SLOW 1 sent two", x.pair(1, 2, 5), 2);
        checks.due("COMING", x.about(2, 10), 2);
        checks.due("HELD from 0", x.from(2, 0, 0), 0);
        checks.due("tick 6: (0, 1) alone is asked again, of 0", x.tick(1), 1);
        checks.due("it came at once", x.from(2, 0, 1), 0);
        checks.due("DONE", x.about(2, 9), 6);
    }

    static void promise10EndNotOfAPieceThatItHas(Checks checks) {
        PieceSwarm x = oneHeldAndBothComing();
        x.tick(1);
        checks.due("DONE in tick 6", x.about(2, 9), 6);
        checks.due("yet two are COMING", x.about(2, 10), 2);
        checks.due("nothing is asked", x.tick(1), 0);
        checks.due("they came and are SPARE", x.about(2, 6), 2);
    }

    /** 1 and SLOW 2 have PIECE 0 alone, and both give it to 3: it then lacks PIECE 1, of which nobody TELLS. */
    static void promise10EndNotOfAPieceThatItHasWhileItLacksOthers(Checks checks) {
        PieceSwarm x = Swarms.swarm(2, 1);
        x.peer(SEED, 2, 1);
        x.peer(PLAIN, 1, 1);
        x.peer(SLOW, 1, 1);
        x.peer(PLAIN, 1, 2);
        Swarms.meetAll(x, 0, 1, 2);
        x.tick(1);
        x.leave(0);
        x.tick(3);
        Swarms.meetAll(x, 3, 1, 2);
        checks.due("tick 5: of 1, at the END of 2", x.tick(1), 2);
        checks.due("HAS PIECE 0", x.held(3, 0), 1);
        checks.due("it is COMING once", x.about(3, 10), 1);
        checks.due("tick 6: not asked of 1 again", x.tick(1), 0);
    }

    /**
     * Tick 5: (0, 0) of 1, (0, 1) of 0, at the END (0, 0) of 0 and (0, 1) of 1. The first two FAIL together, then (0,
     * 0) of 0 is HELD, and (0, 1) of 1 is SPARE. Tick 6: of 0 alone, and as the PIECE is MARKED there is no END.
     */
    @Holds("of PIECES that are not MARKED")
    static void promise10EndNotOfAMarkedPiece(Checks checks) {
        PieceSwarm x = Swarms.seedAndFalseOne(2, 2, 3, 8);
        checks.due("tick 5", x.tick(1), 4);
        checks.due("FAILED", x.about(2, 7), 1);
        checks.due("HELD from 0", x.from(2, 0, 0), 0);
        checks.due("SPARE", x.about(2, 6), 1);
        checks.due("tick 6", x.tick(1), 1);
        checks.due("DONE", x.about(2, 9), 6);
        checks.due("from 0", x.from(2, 0, 1), 0);
    }

    @Holds("of the GIVER among these who may send the most still, of like ones the least number.")
    static void promise10EndOfTheGiverWhoMaySendTheMost(Checks checks) {
        PieceSwarm x = Swarms.swarm(1, 1);
        x.peer(SEED, 8, 1);
        x.peer(SEED, 2, 1);
        x.peer(SEED, 3, 1);
        x.peer(SEED, 3, 1);
        x.peer(PLAIN, 1, 8);
        Swarms.meetAll(x, 4, 0, 3);
        checks.due("two", x.tick(1), 2);
        int[] sent = {1, 0, 1, 0};
        for (int i = 0; i < 4; i++) {
            checks.due("of " + i, x.pair(i, 4, 5), sent[i]);
        }
    }

    /**
     * 3 HAS PIECE 1 alone, SEED 0 both. In tick 9 4 asks PIECE 0 of 0 and PIECE 1 of 3; at the END nobody but 0, who
     * sent it, TELLS of PIECE 0, and so PIECE 1 is asked again, of 0.
     */
    @Holds("and of which a GIVER TELLS who is not the one who sent it:")
    static void promise10EndPassesOverABlockOfWhichNoOtherTells(Checks checks) {
        PieceSwarm x = Swarms.swarm(2, 1);
        x.peer(SEED, 8, 1);
        x.peer(FREE, 1, 1);
        x.peer(SEED, 1, 1);
        x.peer(PLAIN, 8, 1);
        x.peer(PLAIN, 1, 8);
        x.meet(0, 1);
        x.tick(1);
        x.leave(0);
        x.meet(2, 3);
        x.meet(1, 3);
        checks.due("tick 5: PIECE 1 to 3, as 1 TELLS of PIECE 0", x.tick(4), 1);
        checks.due("3 HAS PIECE 1", x.held(3, 1), 1);
        x.leave(1);
        x.leave(2);
        x.join(0);
        x.meet(0, 4);
        x.meet(3, 4);
        checks.due("tick 9", x.tick(4), 3);
        checks.due("PIECE 0 of 0", x.from(4, 0, 0), 0);
        checks.due("PIECE 1 of 3", x.from(4, 1, 0), 3);
        checks.due("at the END of 0", x.pair(0, 4, 5), 2);
        checks.due("SPARE", x.about(4, 6), 1);
    }

    /**
     * SLOW 1 gave (0, 3) to 3 in tick 8. In tick 9 2 asks before 3, and 1 may send no more; so SEED 0 is the only GIVER
     * of 3, and the END asks (0, 3) of it.
     */
    static void promise10EndWhenTheOneWhoSentItMaySendNoMore(Checks checks) {
        PieceSwarm x = Swarms.oneThatGotAll(1, 4, SLOW, 1);
        Swarms.add(x, 2, PLAIN, 1, 1);
        x.meet(1, 3);
        checks.due("ticks 5 to 8", x.tick(4), 4);
        x.join(0);
        x.meet(0, 3);
        x.meet(1, 2);
        checks.due("tick 9: to 2, and at the END to 3", x.tick(1), 2);
        checks.due("SLOW 1 to 2", x.pair(1, 2, 5), 1);
        checks.due("(0, 3) of 0", x.from(3, 0, 3), 0);
        checks.due("DONE", x.about(3, 9), 9);
        x.tick(1);
        checks.due("tick 10: what 1 sent is SPARE", x.about(3, 6), 1);
    }
}
