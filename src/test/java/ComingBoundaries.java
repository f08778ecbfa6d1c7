/** Promise 10 at its edges: BLOCKS that come, PIECES that FAIL, those who are BANNED, MARKED PIECES. */
final class ComingBoundaries implements Terms {
    private ComingBoundaries() {
    }

    static void promise10WhatAPlainOneSendsComesInTheSameTick(Checks checks) {
        PieceSwarm x = Swarms.seedAndTaker(1, 1, 1, 1);
        x.tick(1);
        checks.due("came", x.about(1, 4), 1);
        checks.due("COMING", x.count(7), 0);
    }

    static void promise10WhatASlowOneSendsComesTwoTicksLater(Checks checks) {
        PieceSwarm x = Swarms.oneThatGotAll(1, 1, SLOW, 1);
        x.peer(PLAIN, 1, 1);
        x.meet(1, 2);
        int[] came = {0, 0, 1};
        for (int tick = 5; tick <= 7; tick++) {
            x.tick(1);
            checks.due("came in tick " + tick, x.about(2, 4), came[tick - 5]);
            checks.due("COMING in tick " + tick, x.about(2, 10), 1 - came[tick - 5]);
        }
        checks.due("DONE", x.about(2, 9), 7);
    }

    /** SLOW 1 sends in tick 7 what comes in tick 9 before 2 OPENS: 2 counts it to the time before. */
    static void promise10ComesBeforeTheOpening(Checks checks) {
        PieceSwarm x = Swarms.oneThatGotAll(8, 1, SLOW, 1);
        x.peer(PLAIN, 1, 1);
        x.meet(1, 2);
        x.tick(4);
        checks.due("tick 8: two came", x.pair(2, 1, 4), 2);
        x.tick(1);
        checks.due("tick 9: three came", x.about(2, 4), 3);
        checks.due("tick 9: none since 2 OPENED", x.pair(2, 1, 4), 0);
    }

    /**
     * 3 lacks PIECE 2 alone, which comes to 2 in tick 9 from SLOW 1: it then WANTS of 2, which OPENS to it and gives it
     * in that tick.
     */
    static void promise10WhatComesFirstIsGivenOnInTheSameTick(Checks checks) {
        PieceSwarm x = Swarms.swarm(3, 1);
        x.peer(SEED, 8, 1);
        x.peer(SLOW, 1, 8);
        Swarms.add(x, 2, PLAIN, 1, 1);
        x.meet(0, 1);
        x.meet(0, 3);
        x.tick(2);
        checks.due("3 HAS two", x.about(3, 2), 2);
        x.leave(0);
        x.tick(2);
        x.meet(1, 2);
        checks.due("ticks 5 to 7", x.tick(3), 3);
        checks.due("tick 8", x.tick(1), 0);
        x.meet(2, 3);
        checks.due("3 does not WANT of 2", x.pair(2, 3, 2), 0);
        checks.due("tick 9", x.tick(1), 1);
        checks.due("2 is DONE", x.about(2, 9), 9);
        checks.due("3 is DONE", x.about(3, 9), 9);
        checks.due("from 2", x.from(3, 2, 0), 2);
    }

    static void promise10OneFalseBlockFailsAndBans(Checks checks) {
        PieceSwarm x = Swarms.oneThatGotAll(1, 1, FALSE, 1);
        x.often(1, 1);
        x.peer(PLAIN, 1, 1);
        x.meet(1, 2);
        checks.due("tick 5", x.tick(1), 1);
        checks.due("FAILED", x.about(2, 7), 1);
        checks.due("MARKED", x.about(2, 8), 1);
        checks.due("HOLDS none", x.held(2, 0), 0);
        checks.due("DOUBTED", x.pair(2, 1, 6), 1);
        checks.due("BANNED", x.pair(2, 1, 7), 1);
        checks.due("the other way not", x.pair(1, 2, 7) + x.pair(1, 2, 6), 0);
        checks.due("it gives no more", x.tick(50), 0);
    }

    static void promise10FourBlocksOfOneBan(Checks checks) {
        PieceSwarm x = Swarms.oneThatGotAll(1, 4, FALSE, 8);
        x.often(1, 4);
        x.peer(PLAIN, 1, 8);
        x.meet(1, 2);
        checks.due("tick 5", x.tick(1), 4);
        checks.due("one false of four FAILS", x.about(2, 7), 1);
        checks.due("DOUBTED once", x.pair(2, 1, 6), 1);
        checks.due("BANNED", x.pair(2, 1, 7), 1);
    }

    /** Of the greatest FILE the 96th BLOCK, the last of PIECE 23, is false; then the SEED gives that PIECE. */
    static void promise10TheLastPieceOfTwentyFourFails(Checks checks) {
        PieceSwarm x = Swarms.swarm(24, 4);
        x.peer(SEED, 8, 1);
        x.peer(FALSE, 8, 8);
        x.peer(PLAIN, 1, 8);
        x.often(1, 96);
        x.meet(0, 1);
        x.tick(12);
        x.meet(1, 2);
        checks.due("ticks 13 to 24", x.tick(12), 96);
        checks.due("HAS", x.about(2, 2), 23);
        checks.due("FAILED", x.about(2, 7), 1);
        checks.due("HELD of the last", x.held(2, 23), 0);
        checks.due("BANNED", x.pair(2, 1, 7), 1);
        x.meet(0, 2);
        checks.due("tick 25", x.tick(1), 4);
        checks.due("DONE", x.about(2, 9), 25);
        checks.due("the last BLOCK from 0", x.from(2, 23, 3), 0);
    }

    /** Three BLOCKS of FALSE 1 and one of SEED 0: both are DOUBTED once, and none is BANNED. */
    static void promise10FourBlocksOfTwoDoubtBoth(Checks checks) {
        PieceSwarm x = Swarms.seedAndFalseOne(4, 6, 8, 4);
        checks.due("tick 5", x.tick(1), 4);
        checks.due("of 0", x.pair(0, 2, 5), 1);
        checks.due("of 1", x.pair(1, 2, 5), 3);
        checks.due("FAILED", x.about(2, 7), 1);
        checks.due("0 is DOUBTED", x.pair(2, 0, 6), 1);
        checks.due("1 is DOUBTED", x.pair(2, 1, 6), 1);
        checks.due("none is BANNED", x.about(2, 11), 0);
        checks.due("all are dropped", x.about(2, 3), 0);
    }

    static void promise10NoSumBeforeTheLastBlock(Checks checks) {
        PieceSwarm x = Swarms.oneThatGotAll(1, 4, FALSE, 1);
        x.often(1, 1);
        x.peer(PLAIN, 1, 1);
        x.meet(1, 2);
        for (int held = 1; held <= 3; held++) {
            x.tick(1);
            checks.due("HELD", x.held(2, 0), held);
            checks.due("FAILED", x.about(2, 7), 0);
            checks.due("the VALUE is false", x.got(2, 0, held - 1), x.value(0, held - 1) ^ 1);
        }
        x.tick(1);
        checks.due("FAILED with the fourth", x.about(2, 7), 1);
        checks.due("HELD now", x.held(2, 0), 0);
        checks.due("no VALUE", x.got(2, 0, 0), 0);
        checks.due("from nobody", x.from(2, 0, 0), NONE);
    }

    static void promise10MarkedForGood(Checks checks) {
        PieceSwarm x = Swarms.seedAndFalseOne(1, 1, 2, 1);
        x.tick(1);
        checks.due("MARKED", x.about(2, 8), 1);
        x.tick(1);
        checks.due("HAS it", x.about(2, 9), 6);
        checks.due("MARKED still", x.about(2, 8), 1);
        x.tick(8);
        checks.due("and HAS it still, though MARKED", x.held(2, 0), 1);
        x.leave(0);
        x.tick(1);
        checks.due("the giver is not NEAR: what it HAS stays", x.held(2, 0), 1);
    }

    /**
     * Tick 5: (0, 0) and (0, 1) of FALSE 1, at the END (0, 0) of SEED 3, and (0, 1) of SLOW 2, which is like 3 by then.
     * What 1 sent FAILS, and what 3 sent is HELD; so what comes of 2 in tick 7 is SPARE, and (0, 1) is asked of 3.
     */
    static void promise10OfAMarkedPieceABlockOfAnotherIsSpare(Checks checks) {
        PieceSwarm x = markedWithSlowAndSeed();
        checks.due("tick 5", x.tick(1), 4);
        checks.due("1 is BANNED", x.pair(4, 1, 7), 1);
        checks.due("HELD from 3", x.from(4, 0, 0), 3);
        checks.due("COMING of 2", x.about(4, 10), 1);
        checks.due("tick 6: nothing to ask", x.tick(1), 0);
        checks.due("tick 7: of 3", x.tick(1), 1);
        checks.due("SPARE", x.about(4, 6), 1);
        checks.due("DONE", x.about(4, 9), 7);
        checks.due("(0, 1) from 3", x.from(4, 0, 1), 3);
    }

    /** As above, but 3 goes behind tick 5: in tick 6 its BLOCK is dropped, and what is COMING binds 4 to 2. */
    static void promise10OfAMarkedPieceWhatIsComingBinds(Checks checks) {
        PieceSwarm x = markedWithSlowAndSeed();
        x.tick(1);
        x.leave(3);
        checks.due("HELD from the gone one", x.held(4, 0), 1);
        checks.due("tick 6: (0, 0) of SLOW 2", x.tick(1), 1);
        checks.due("dropped", x.held(4, 0), 0);
        checks.due("2 sent it", x.pair(2, 4, 5), 2);
        x.tick(1);
        checks.due("tick 7: (0, 1) came", x.from(4, 0, 1), 2);
        x.tick(1);
        checks.due("tick 8: (0, 0) came", x.about(4, 9), 8);
        checks.due("none is SPARE", x.about(4, 6), 0);
    }

    /** FALSE 1, of which each BLOCK is false, SLOW 2 and SEED 3 have all and are NEAR to 4; tick 4. */
    private static PieceSwarm markedWithSlowAndSeed() {
        PieceSwarm x = Swarms.swarm(1, 2);
        x.peer(SEED, 8, 1);
        x.peer(FALSE, 8, 8);
        x.peer(SLOW, 1, 8);
        x.peer(SEED, 2, 1);
        x.peer(PLAIN, 1, 4);
        x.often(1, 1);
        Swarms.meetAll(x, 0, 1, 2);
        x.tick(4);
        x.leave(0);
        Swarms.meetAll(x, 4, 1, 3);
        return x;
    }

    /** Tick 5 FAILS of 0 and 1 together. In tick 6 the first is asked of 0 again, and binds: 1 may send more then. */
    static void promise10OfAMarkedPieceTheFirstAskedBinds(Checks checks) {
        PieceSwarm x = Swarms.swarm(1, 3);
        x.peer(SEED, 2, 1);
        x.peer(FALSE, 2, 8);
        x.peer(PLAIN, 1, 3);
        x.often(1, 100);
        x.meet(0, 1);
        x.tick(4);
        Swarms.meetAll(x, 2, 0, 1);
        x.often(1, 1);
        checks.due("tick 5: of 0, 1, 0", x.tick(1), 3);
        checks.due("FAILED", x.about(2, 7), 1);
        checks.due("tick 6: of 0 alone, as the first was", x.tick(1), 2);
        checks.due("(0, 0)", x.from(2, 0, 0), 0);
        checks.due("(0, 1)", x.from(2, 0, 1), 0);
        checks.due("of 1 no more", x.pair(1, 2, 5), 1);
        checks.due("tick 7", x.tick(1), 1);
        checks.due("DONE", x.about(2, 9), 7);
    }

    /**
     * Tick 5: all three of FALSE 1, at the END (0, 0) of SLOW 3 and then (0, 1) of SLOW 2. What 1 sent FAILS; so 3, who
     * sent the first that is COMING, binds, and what comes of 2 is SPARE.
     */
    static void promise10OfAMarkedPieceTheFirstSentOfThoseComingBinds(Checks checks) {
        PieceSwarm x = Swarms.swarm(1, 3);
        x.peer(SEED, 8, 1);
        x.peer(FALSE, 8, 8);
        x.peer(SLOW, 1, 8);
        x.peer(SLOW, 2, 8);
        x.peer(PLAIN, 1, 5);
        x.often(1, 1);
        Swarms.meetAll(x, 0, 1, 3);
        x.tick(4);
        x.leave(0);
        Swarms.meetAll(x, 4, 1, 3);
        checks.due("tick 5", x.tick(1), 5);
        checks.due("1 is BANNED", x.pair(4, 1, 7), 1);
        checks.due("COMING of 2 and 3", x.pair(2, 4, 5) + x.pair(3, 4, 5), 2);
        checks.due("tick 6: (0, 2)", x.tick(1), 1);
        checks.due("of 3", x.pair(3, 4, 5), 2);
        checks.due("tick 7: (0, 1) once more", x.tick(1), 1);
        checks.due("of 3", x.pair(3, 4, 5), 3);
        checks.due("what came of 2 is SPARE", x.about(4, 6), 1);
        checks.due("tick 8", x.tick(1), 0);
        checks.due("two are HELD", x.held(4, 0), 2);
        checks.due("tick 9", x.tick(1), 0);
        checks.due("DONE", x.about(4, 9), 9);
    }

    /** 2 HOLDS a BLOCK of a MARKED PIECE from SEED 0: tick 7 of seedAndFalseOne, with a down rate of 1. */
    private static PieceSwarm markedAndHeldFromSeed() {
        PieceSwarm x = Swarms.seedAndFalseOne(2, 1, 2, 1);
        x.tick(1);
        x.leave(1);
        x.tick(2);
        return x;
    }

    static void promise10AMarkedPieceIsDroppedInATickNotBefore(Checks checks) {
        PieceSwarm x = markedAndHeldFromSeed();
        checks.due("MARKED", x.about(2, 8), 1);
        checks.due("HELD from 0", x.from(2, 0, 0), 0);
        x.leave(0);
        checks.due("HELD till a tick comes", x.held(2, 0), 1);
        x.tick(0);
        checks.due("which tick(0) is not", x.held(2, 0), 1);
        x.tick(1);
        checks.due("dropped", x.held(2, 0), 0);
        checks.due("MARKED still", x.about(2, 8), 1);
    }

    static void promise10AMarkedPieceStaysIfItsGiverIsNearAgain(Checks checks) {
        PieceSwarm x = markedAndHeldFromSeed();
        x.leave(0);
        x.join(0);
        x.tick(1);
        checks.due("NEAR in the tick: HELD", x.held(2, 0), 1);
    }

    static void promise10AMarkedPieceOfAGoneOneStays(Checks checks) {
        PieceSwarm x = markedAndHeldFromSeed();
        x.leave(2);
        x.leave(0);
        x.tick(8);
        checks.due("a gone one drops nothing", x.held(2, 0), 1);
        x.join(0);
        x.join(2);
        x.tick(1);
        checks.due("nor when both are HERE again", x.held(2, 0), 1);
    }

    static void promise10APieceThatIsNotMarkedIsNotDropped(Checks checks) {
        PieceSwarm x = Swarms.seedAndTaker(1, 2, 1, 1);
        x.tick(1);
        x.leave(0);
        x.tick(50);
        checks.due("HELD", x.held(1, 0), 1);
        checks.due("from the gone one", x.from(1, 0, 0), 0);
    }

    /** FALSE 1 sends three PIECES in one tick: for the second it is BANNED, and the third comes all the same. */
    static void promise10WhatABannedOneSentStillComes(Checks checks) {
        PieceSwarm x = Swarms.oneThatGotAll(3, 1, FALSE, 3);
        x.peer(PLAIN, 1, 3);
        x.meet(1, 2);
        checks.due("tick 5", x.tick(1), 3);
        checks.due("the second FAILED", x.about(2, 7), 1);
        checks.due("it is BANNED", x.pair(2, 1, 7), 1);
        checks.due("the first and the third are true", x.about(2, 2), 2);
        checks.due("the third from it", x.from(2, 2, 0), 1);
        checks.due("all came", x.about(2, 4), 3);
    }

    /** 2 BANS 1; so neither is open to the other one, nor NEAR to it, for good. */
    static void promise10NearIfNeitherBannedTheOther(Checks checks) {
        PieceSwarm x = Swarms.seedAndFalseOne(1, 1, 2, 1);
        x.tick(1);
        checks.due("NEAR to the one who BANNED", x.pair(2, 1, 1), 0);
        checks.due("NEAR to the BANNED one", x.pair(1, 2, 1), 0);
        checks.due("open", x.pair(1, 2, 3) + x.pair(2, 1, 3), 0);
        checks.due("WANTS", x.pair(1, 2, 2) + x.pair(2, 1, 2), 0);
        checks.due("0 alone TELLS 2", x.rare(2, 0), 1);
        checks.due("0 and 2 are NEAR", x.pair(0, 2, 1) + x.pair(2, 0, 1), 2);
        checks.due("tick 6: of 0", x.tick(1), 1);
        checks.due("from 0", x.from(2, 0, 0), 0);
        checks.due("2 does not TELL 1 either", x.rare(1, 0), 1);
    }

    /** FALSE 1 has PIECE 0 alone, 2 has PIECE 1 alone, and each is open to the other one when 2 BANS 1. */
    static void promise10WhoIsNotNearIsNotOpenEitherWay(Checks checks) {
        PieceSwarm x = Swarms.swarm(2, 1);
        x.peer(SEED, 1, 1);
        x.peer(FALSE, 1, 1);
        x.peer(PLAIN, 1, 1);
        x.peer(SEED, 1, 1);
        x.meet(0, 1);
        x.tick(1);
        x.leave(0);
        x.often(1, 1);
        x.meet(1, 2);
        x.meet(2, 3);
        x.tick(4);
        checks.due("2 HAS PIECE 1, the rarer", x.held(2, 1), 1);
        x.leave(3);
        x.leave(1);
        x.tick(3);
        x.join(1);
        checks.due("each WANTS of the other", x.pair(1, 2, 2) + x.pair(2, 1, 2), 2);
        checks.due("each gives one", x.tick(1), 2);
        checks.due("BANNED", x.pair(2, 1, 7), 1);
        checks.due("1 is not open to 2", x.pair(1, 2, 3) + x.about(1, 12), 0);
        checks.due("2 is not open to 1", x.pair(2, 1, 3) + x.about(2, 12), 0);
        checks.due("what came stays in the LATE number", x.pair(2, 1, 4), 1);
    }

    static void promise10ABanEndsTheOpeningToThatOneAlone(Checks checks) {
        PieceSwarm x = Swarms.oneThatGotAll(1, 1, FALSE, 1);
        x.often(1, 1);
        Swarms.add(x, 2, PLAIN, 1, 1);
        Swarms.meetAll(x, 1, 2, 3);
        checks.due("tick 5: to 2", x.tick(1), 1);
        checks.due("not open to 2", x.pair(1, 2, 3), 0);
        checks.due("open to 3", x.pair(1, 3, 3), 1);
        checks.due("open to one", x.about(1, 12), 1);
        checks.due("tick 6: to 3", x.tick(1), 1);
        checks.due("open to none", x.about(1, 12), 0);
        checks.due("NEAR to neither", x.pair(1, 2, 1) + x.pair(1, 3, 1), 0);
        checks.due("BANNED by both", x.pair(2, 1, 7) + x.pair(3, 1, 7), 2);
        checks.due("nor does it OPEN again", x.tick(4), 0);
    }

    /** The one who drops has the least number; as in the tests above, but for the numbers. */
    static void promise10AMarkedPieceOfTheFirstPeerIsDropped(Checks checks) {
        PieceSwarm x = Swarms.swarm(1, 2);
        x.peer(PLAIN, 1, 1);
        x.peer(SEED, 1, 1);
        x.peer(FALSE, 2, 2);
        x.often(2, 1);
        x.meet(1, 2);
        x.tick(4);
        Swarms.meetAll(x, 0, 1, 2);
        x.tick(1);
        x.leave(2);
        x.tick(2);
        checks.due("MARKED", x.about(0, 8), 1);
        checks.due("HELD from 1", x.from(0, 0, 0), 1);
        x.leave(1);
        x.tick(1);
        checks.due("dropped", x.held(0, 0), 0);
    }
}
