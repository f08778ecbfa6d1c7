/** Promise 10 at its edges: BLOCKS that come, PIECES that FAIL, those who are BANNED, MARKED PIECES. */
final class ComingBoundaries implements Terms {
    private ComingBoundaries() {
    }

    @Holds("d. What was sent in it, but by SLOW ones, comes,")
    static void promise10WhatAPlainOneSendsComesInTheSameTick(Checks checks) {
        PieceSwarm x = Swarms.seedAndTaker(1, 1, 1, 1);
        x.tick(1);
        checks.due("came", x.about(1, 4), 1);
        checks.due("COMING", x.count(7), 0);
    }

    @Holds({
        "4 SLOW: what it sends in tick t comes in tick t + 2;",
        "slow ones",
        "A BLOCK is COMING to a PEER from when it was sent till it comes."})
    static void promise10WhatASlowOneSendsComesTwoTicksLater(Checks checks) {
        PieceSwarm x = Swarms.oneThatGotAll(1, 1, SLOW, 1);
        x.peer(PLAIN, 1, 1);
        x.meet(1, 2);
        int[] came = {0, 0, 1};
        for (int tick = 5; tick <= 7; tick++) {
            x.tick(1);
            checks.due("came in tick " + tick, x.about(2, 4), came[tick - 5]);
            checks.due("COMING in tick " + tick, x.about(2, 10), 1 - came[tick - 5]);
        }
        checks.due("DONE", x.about(2, 9), 7);
    }

    /** SLOW 1 sends in tick 7 what comes in tick 9 before 2 OPENS: 2 counts it to the time before. */
    static void promise10ComesBeforeTheOpening(Checks checks) {
        PieceSwarm x = Swarms.oneThatGotAll(8, 1, SLOW, 1);
        x.peer(PLAIN, 1, 1);
        x.meet(1, 2);
        x.tick(4);
        checks.due("tick 8: two came", x.pair(2, 1, 4), 2);
        x.tick(1);
        checks.due("tick 9: three came", x.about(2, 4), 3);
        checks.due("tick 9: none since 2 OPENED", x.pair(2, 1, 4), 0);
    }

    /**
     * 3 lacks PIECE 2 alone, which comes to 2 in tick 9 from SLOW 1: it then WANTS of 2, which OPENS to it and gives it
     * in that tick.
     */
    static void promise10WhatComesFirstIsGivenOnInTheSameTick(Checks checks) {
        PieceSwarm x = Swarms.swarm(3, 1);
        x.peer(SEED, 8, 1);
        x.peer(SLOW, 1, 8);
        Swarms.add(x, 2, PLAIN, 1, 1);
        x.meet(0, 1);
        x.meet(0, 3);
        x.tick(2);
        checks.due("3 HAS two", x.about(3, 2), 2);
        x.leave(0);
        x.tick(2);
        x.meet(1, 2);
        checks.due("ticks 5 to 7", x.tick(3), 3);
        checks.due("tick 8", x.tick(1), 0);
        x.meet(2, 3);
        checks.due("3 does not WANT of 2", x.pair(2, 3, 2), 0);
        checks.due("tick 9", x.tick(1), 1);
        checks.due("2 is DONE", x.about(2, 9), 9);
        checks.due("3 is DONE", x.about(3, 9), 9);
        checks.due("from 2", x.from(3, 2, 0), 2);
    }

    /** 1 may send more than 0, and so was asked first: what it sent comes first, though its number is greater. */
    @Holds("in that order.")
    static void promise10ComesInTheOrderInWhichItWasSent(Checks checks) {
        PieceSwarm x = Swarms.swarm(1, 1);
        x.peer(SEED, 1, 1);
        x.peer(SEED, 2, 1);
        x.peer(PLAIN, 1, 2);
        Swarms.meetAll(x, 2, 0, 1);
        checks.due("tick 1", x.tick(1), 2);
        checks.due("from 1", x.from(2, 0, 0), 1);
        checks.due("what 0 sent is SPARE", x.pair(0, 2, 5) + x.about(2, 6), 2);
    }

    /** As above, of two SLOW ones. */
    @Holds("a. What is COMING and due in it comes, in the order in which it was sent.")
    static void promise10WhatSlowOnesSentComesInTheOrderInWhichItWasSent(Checks checks) {
        PieceSwarm x = Swarms.swarm(1, 1);
        x.peer(SEED, 8, 1);
        x.peer(SLOW, 1, 1);
        x.peer(SLOW, 2, 1);
        x.peer(PLAIN, 1, 2);
        Swarms.meetAll(x, 0, 1, 2);
        x.tick(4);
        x.leave(0);
        Swarms.meetAll(x, 3, 1, 2);
        checks.due("tick 5", x.tick(1), 2);
        x.tick(2);
        checks.due("from 2", x.from(3, 0, 0), 2);
        checks.due("what 1 sent is SPARE", x.pair(1, 3, 5) + x.about(3, 6), 2);
    }

    /**
     * Five SLOW ones have the PIECES 0 to 7, four others 8 to 15. Each of the four is open to four of the five, and
     * each of the five to all four: 32 BLOCKS go each way in each tick, so that 128 are COMING at once.
     */
    static void promise10TheMostOnTheirWay(Checks checks) {
        PieceSwarm x = Swarms.swarm(24, 4);
        Swarms.add(x, 9, SLOW, 8, 8);
        Swarms.add(x, 2, SEED, 8, 1);
        x.peer(FREE, 1, 8);
        for (int p = 0; p < 9; p++) {
            x.leave(p);
        }
        x.meet(9, 11);
        checks.due("eight PIECES to the FREE one", x.tick(4), 32);
        x.leave(11);
        for (int p = 0; p < 5; p++) {
            x.meet(p, 9);
            getEightPieces(checks, x, p, 0);
        }
        x.leave(9);
        x.join(11);
        for (int p = 5; p < 9; p++) {
            x.meet(p, 10);
            x.meet(p, 11);
            getEightPieces(checks, x, p, 8);
        }
        x.leave(10);
        x.leave(11);
        for (int p = 0; p < 9; p++) {
            x.join(p);
            if (p >= 5) {
                Swarms.meetAll(x, p, 0, 4);
            }
        }
        int[] coming = {64, 128, 128};
        for (int i = 0; i < 3; i++) {
            checks.due("sent in tick " + (41 + i), x.tick(1), 64);
            checks.due("COMING in tick " + (41 + i), x.count(7), coming[i]);
        }
        for (int p = 0; p < 9; p++) {
            checks.due("came to " + p, x.about(p, 4), p == 4 ? 32 : 40);
        }
        checks.due("lost", x.count(8), 0);
    }

    /** One who is alone with its SEED, and with the FREE one, if that is HERE; the next tick OPENS again. */
    private static void getEightPieces(Checks checks, PieceSwarm x, int p, int first) {
        x.join(p);
        checks.due("to " + p, x.tick(4), 32);
        checks.due("the first of them", x.held(p, first), 4);
        checks.due("the last of them", x.held(p, first + 7), 4);
        x.leave(p);
    }

    @Holds("sums find what is false and who sent it,")
    static void promise10OneFalseBlockFailsAndBans(Checks checks) {
        PieceSwarm x = Swarms.oneThatGotAll(1, 1, FALSE, 1);
        x.often(1, 1);
        x.peer(PLAIN, 1, 1);
        x.meet(1, 2);
        checks.due("tick 5", x.tick(1), 1);
        checks.due("FAILED", x.about(2, 7), 1);
        checks.due("MARKED", x.about(2, 8), 1);
        checks.due("HOLDS none", x.held(2, 0), 0);
        checks.due("DOUBTED", x.pair(2, 1, 6), 1);
        checks.due("BANNED", x.pair(2, 1, 7), 1);
        checks.due("the other way not", x.pair(1, 2, 7) + x.pair(1, 2, 6), 0);
        checks.due("it gives no more", x.tick(50), 0);
    }

    @Holds("and is BANNED by it, if all came from that one;")
    static void promise10FourBlocksOfOneBan(Checks checks) {
        PieceSwarm x = Swarms.oneThatGotAll(1, 4, FALSE, 8);
        x.often(1, 4);
        x.peer(PLAIN, 1, 8);
        x.meet(1, 2);
        checks.due("tick 5", x.tick(1), 4);
        checks.due("one false of four FAILS", x.about(2, 7), 1);
        checks.due("DOUBTED once", x.pair(2, 1, 6), 1);
        checks.due("BANNED", x.pair(2, 1, 7), 1);
    }

    /** Of the greatest FILE the 96th BLOCK, the last of PIECE 23, is false; then the SEED gives that PIECE. */
    @Holds("if their SUM is that of the FILE, it HAS the PIECE;")
    static void promise10TheLastPieceOfTwentyFourFails(Checks checks) {
        PieceSwarm x = Swarms.swarm(24, 4);
        x.peer(SEED, 8, 1);
        x.peer(FALSE, 8, 8);
        x.peer(PLAIN, 1, 8);
        x.often(1, 96);
        x.meet(0, 1);
        x.tick(12);
        x.meet(1, 2);
        checks.due("ticks 13 to 24", x.tick(12), 96);
        checks.due("HAS", x.about(2, 2), 23);
        checks.due("FAILED", x.about(2, 7), 1);
        checks.due("HELD of the last", x.held(2, 23), 0);
        checks.due("BANNED", x.pair(2, 1, 7), 1);
        x.meet(0, 2);
        checks.due("tick 25", x.tick(1), 4);
        checks.due("DONE", x.about(2, 9), 25);
        checks.due("the last BLOCK from 0", x.from(2, 23, 3), 0);
    }

    /** Three BLOCKS of FALSE 1 and one of SEED 0: both are DOUBTED once, and none is BANNED. */
    @Holds("each who sent one of them is DOUBTED by it once more,")
    static void promise10FourBlocksOfTwoDoubtBoth(Checks checks) {
        PieceSwarm x = Swarms.seedAndFalseOne(4, 6, 8, 4);
        checks.due("tick 5", x.tick(1), 4);
        checks.due("of 0", x.pair(0, 2, 5), 1);
        checks.due("of 1", x.pair(1, 2, 5), 3);
        checks.due("FAILED", x.about(2, 7), 1);
        checks.due("0 is DOUBTED", x.pair(2, 0, 6), 1);
        checks.due("1 is DOUBTED", x.pair(2, 1, 6), 1);
        checks.due("none is BANNED", x.about(2, 11), 0);
        checks.due("all are dropped", x.about(2, 3), 0);
    }

    @Holds({
        "else it is HELD. If now all K are:",
        "else the PIECE FAILS: it HOLDS none of it,"})
    static void promise10NoSumBeforeTheLastBlock(Checks checks) {
        PieceSwarm x = Swarms.oneThatGotAll(1, 4, FALSE, 1);
        x.often(1, 1);
        x.peer(PLAIN, 1, 1);
        x.meet(1, 2);
        for (int held = 1; held <= 3; held++) {
            x.tick(1);
            checks.due("HELD", x.held(2, 0), held);
            checks.due("FAILED", x.about(2, 7), 0);
            checks.due("the VALUE is false", x.got(2, 0, held - 1), x.value(0, held - 1) ^ 1);
        }
        x.tick(1);
        checks.due("FAILED with the fourth", x.about(2, 7), 1);
        checks.due("HELD now", x.held(2, 0), 0);
        checks.due("no VALUE", x.got(2, 0, 0), 0);
        checks.due("from nobody", x.from(2, 0, 0), NONE);
    }

    @Holds("the PIECE is MARKED (for good).")
    static void promise10MarkedForGood(Checks checks) {
        PieceSwarm x = Swarms.seedAndFalseOne(1, 1, 2, 1);
        x.tick(1);
        checks.due("MARKED", x.about(2, 8), 1);
        x.tick(1);
        checks.due("HAS it", x.about(2, 9), 6);
        checks.due("MARKED still", x.about(2, 8), 1);
        x.tick(8);
        checks.due("and HAS it still, though MARKED", x.held(2, 0), 1);
        x.leave(0);
        x.tick(1);
        checks.due("the giver is not NEAR: what it HAS stays", x.held(2, 0), 1);
        checks.due("and from whom it came", x.from(2, 0, 0), 0);
        checks.due("and its VALUE", x.got(2, 0, 0), x.value(0, 0));
    }

    /** Of two SEEDS comes the one BLOCK: the second one is SPARE, as the PIECE is there. */
    @Holds("A BLOCK that comes: SPARE, if the PEER HAS its PIECE,")
    static void promise10SpareIfItHasThePiece(Checks checks) {
        PieceSwarm x = Swarms.swarm(1, 1);
        Swarms.add(x, 2, SEED, 1, 1);
        x.peer(PLAIN, 1, 2);
        Swarms.meetAll(x, 2, 0, 1);
        checks.due("tick 1", x.tick(1), 2);
        checks.due("came", x.about(2, 4), 2);
        checks.due("SPARE", x.about(2, 6), 1);
        checks.due("HAS it from the first", x.from(2, 0, 0), 0);
    }

    /**
     * Tick 5: both BLOCKS of SLOW 1, at the END (0, 0) of SEED 0, which is HELD at once. In tick 7 (0, 0) of 1 comes
     * first, where (0, 1) is not there yet: it is SPARE, as that BLOCK is HELD.
     */
    @Holds("or HOLDS that BLOCK,")
    static void promise10SpareIfItHoldsTheBlock(Checks checks) {
        PieceSwarm x = Swarms.swarm(1, 2);
        x.peer(SEED, 1, 1);
        x.peer(SLOW, 3, 2);
        x.peer(PLAIN, 1, 3);
        x.meet(0, 1);
        x.tick(4);
        Swarms.meetAll(x, 2, 0, 1);
        checks.due("tick 5", x.tick(1), 3);
        checks.due("HELD from 0", x.from(2, 0, 0), 0);
        checks.due("not HELD", x.from(2, 0, 1), NONE);
        x.leave(0);
        x.tick(2);
        checks.due("SPARE", x.about(2, 6), 1);
        checks.due("DONE", x.about(2, 9), 7);
        checks.due("(0, 0) from 0 still", x.from(2, 0, 0), 0);
        checks.due("(0, 1) from 1", x.from(2, 0, 1), 1);
    }

    /**
     * 3 HOLDS (0, 0) of SEED 0 of a MARKED PIECE. In ticks 9 and 10 2 asks before it, so that 0, of up rate 1, may send
     * no more; SEED 4 could, but it is not the one from whom that BLOCK came.
     */
    @Holds("of a MARKED one, if a BLOCK of it is HELD, this must be the one from whom the first of these (by number) "
        + "came,")
    static void promise10OfAMarkedPieceWhatIsHeldBinds(Checks checks) {
        PieceSwarm x = Swarms.swarm(1, 2);
        x.peer(SEED, 1, 1);
        x.peer(FALSE, 2, 8);
        Swarms.add(x, 2, PLAIN, 1, 1);
        x.peer(SEED, 8, 1);
        x.often(1, 1);
        x.meet(0, 1);
        x.tick(4);
        Swarms.meetAll(x, 3, 0, 1);
        checks.due("tick 5: (0, 0) of 1", x.tick(1), 1);
        x.leave(1);
        checks.due("tick 6: (0, 1) of 0", x.tick(1), 1);
        checks.due("FAILED", x.about(3, 7), 1);
        checks.due("tick 7: (0, 0) of 0", x.tick(1), 1);
        x.leave(0);
        x.join(0);
        x.meet(0, 2);
        x.meet(3, 4);
        checks.due("tick 8: nobody is open", x.tick(1), 0);
        checks.due("ticks 9 and 10: to 2", x.tick(2), 2);
        checks.due("4 is open to 3", x.pair(4, 3, 3), 1);
        checks.due("0 is open to 3", x.pair(0, 3, 3), 1);
        checks.due("2 is DONE", x.about(2, 9), 10);
        checks.due("3 HOLDS one", x.held(3, 0), 1);
        checks.due("tick 11: to 3", x.tick(1), 1);
        checks.due("of 0", x.from(3, 0, 1), 0);
        checks.due("3 is DONE", x.about(3, 9), 11);
        checks.due("4 sent none", x.about(4, 5), 0);
    }

    /**
     * Tick 5: (0, 0) and (0, 1) of FALSE 1, at the END (0, 0) of SEED 3, and (0, 1) of SLOW 2, which is like 3 by then.
     * What 1 sent FAILS, and what 3 sent is HELD; so what comes of 2 in tick 7 is SPARE, and (0, 1) is asked of 3.
     */
    @Holds("or the PIECE is MARKED and a BLOCK of it is HELD that came from another PEER;")
    static void promise10OfAMarkedPieceABlockOfAnotherIsSpare(Checks checks) {
        PieceSwarm x = markedWithSlowAndSeed();
        checks.due("tick 5", x.tick(1), 4);
        checks.due("1 is BANNED", x.pair(4, 1, 7), 1);
        checks.due("HELD from 3", x.from(4, 0, 0), 3);
        checks.due("COMING of 2", x.about(4, 10), 1);
        checks.due("tick 6: nothing to ask", x.tick(1), 0);
        checks.due("tick 7: of 3", x.tick(1), 1);
        checks.due("SPARE", x.about(4, 6), 1);
        checks.due("DONE", x.about(4, 9), 7);
        checks.due("(0, 1) from 3", x.from(4, 0, 1), 3);
    }

    /** As above, but 3 goes behind tick 5: in tick 6 its BLOCK is dropped, and what is COMING binds 4 to 2. */
    static void promise10OfAMarkedPieceWhatIsComingBinds(Checks checks) {
        PieceSwarm x = markedWithSlowAndSeed();
        x.tick(1);
        x.leave(3);
        checks.due("HELD from the gone one", x.held(4, 0), 1);
        checks.due("tick 6: (0, 0) of SLOW 2", x.tick(1), 1);
        checks.due("dropped", x.held(4, 0), 0);
        checks.due("2 sent it", x.pair(2, 4, 5), 2);
        x.tick(1);
        checks.due("tick 7: (0, 1) came", x.from(4, 0, 1), 2);
        x.tick(1);
        checks.due("tick 8: (0, 0) came", x.about(4, 9), 8);
        checks.due("none is SPARE", x.about(4, 6), 0);
    }

    /** FALSE 1, of which each BLOCK is false, SLOW 2 and SEED 3 have all and are NEAR to 4; tick 4. */
    private static PieceSwarm markedWithSlowAndSeed() {
        PieceSwarm x = Swarms.swarm(1, 2);
        x.peer(SEED, 8, 1);
        x.peer(FALSE, 8, 8);
        x.peer(SLOW, 1, 8);
        x.peer(SEED, 2, 1);
        x.peer(PLAIN, 1, 4);
        x.often(1, 1);
        Swarms.meetAll(x, 0, 1, 2);
        x.tick(4);
        x.leave(0);
        Swarms.meetAll(x, 4, 1, 3);
        return x;
    }

    /** Tick 5 FAILS of 0 and 1 together. In tick 6 the first is asked of 0 again, and binds: 1 may send more then. */
    @Holds("of a MARKED one,")
    static void promise10OfAMarkedPieceTheFirstAskedBinds(Checks checks) {
        PieceSwarm x = Swarms.swarm(1, 3);
        x.peer(SEED, 2, 1);
        x.peer(FALSE, 2, 8);
        x.peer(PLAIN, 1, 3);
        x.often(1, 100);
        x.meet(0, 1);
        x.tick(4);
        Swarms.meetAll(x, 2, 0, 1);
        x.often(1, 1);
        checks.due("tick 5: of 0, 1, 0", x.tick(1), 3);
        checks.due("FAILED", x.about(2, 7), 1);
        checks.due("tick 6: of 0 alone, as the first was", x.tick(1), 2);
        checks.due("(0, 0)", x.from(2, 0, 0), 0);
        checks.due("(0, 1)", x.from(2, 0, 1), 0);
        checks.due("of 1 no more", x.pair(1, 2, 5), 1);
        checks.due("tick 7", x.tick(1), 1);
        checks.due("DONE", x.about(2, 9), 7);
    }

    /**
     * Tick 5: all three of FALSE 1, at the END (0, 0) of SLOW 3 and then (0, 1) of SLOW 2. What 1 sent FAILS; so 3, who
     * sent the first that is COMING, binds, and what comes of 2 is SPARE.
     */
    @Holds("else, if one is COMING, the one who sent the first of these (as they were sent).")
    static void promise10OfAMarkedPieceTheFirstSentOfThoseComingBinds(Checks checks) {
        PieceSwarm x = Swarms.swarm(1, 3);
        x.peer(SEED, 8, 1);
        x.peer(FALSE, 8, 8);
        x.peer(SLOW, 1, 8);
        x.peer(SLOW, 2, 8);
        x.peer(PLAIN, 1, 5);
        x.often(1, 1);
        Swarms.meetAll(x, 0, 1, 3);
        x.tick(4);
        x.leave(0);
        Swarms.meetAll(x, 4, 1, 3);
        checks.due("tick 5", x.tick(1), 5);
        checks.due("1 is BANNED", x.pair(4, 1, 7), 1);
        checks.due("COMING of 2 and 3", x.pair(2, 4, 5) + x.pair(3, 4, 5), 2);
        checks.due("tick 6: (0, 2)", x.tick(1), 1);
        checks.due("of 3", x.pair(3, 4, 5), 2);
        checks.due("tick 7: (0, 1) once more", x.tick(1), 1);
        checks.due("of 3", x.pair(3, 4, 5), 3);
        checks.due("what came of 2 is SPARE", x.about(4, 6), 1);
        checks.due("tick 8", x.tick(1), 0);
        checks.due("two are HELD", x.held(4, 0), 2);
        checks.due("tick 9", x.tick(1), 0);
        checks.due("DONE", x.about(4, 9), 9);
    }

    /** 2 HOLDS a BLOCK of a MARKED PIECE from SEED 0: tick 7 of seedAndFalseOne, with a down rate of 1. */
    private static PieceSwarm markedAndHeldFromSeed() {
        PieceSwarm x = Swarms.seedAndFalseOne(2, 1, 2, 1);
        x.tick(1);
        x.leave(1);
        x.tick(2);
        return x;
    }

    @Holds("c. Of MARKED PIECES of which a PEER that is HERE HOLDS a BLOCK from one who isn't NEAR to it, it HOLDS "
        + "none any more.")
    static void promise10AMarkedPieceIsDroppedInATickNotBefore(Checks checks) {
        PieceSwarm x = markedAndHeldFromSeed();
        checks.due("MARKED", x.about(2, 8), 1);
        checks.due("HELD from 0", x.from(2, 0, 0), 0);
        x.leave(0);
        checks.due("HELD till a tick comes", x.held(2, 0), 1);
        x.tick(0);
        checks.due("which tick(0) is not", x.held(2, 0), 1);
        x.tick(1);
        checks.due("dropped", x.held(2, 0), 0);
        checks.due("MARKED still", x.about(2, 8), 1);
    }

    static void promise10AMarkedPieceStaysIfItsGiverIsNearAgain(Checks checks) {
        PieceSwarm x = markedAndHeldFromSeed();
        x.leave(0);
        x.join(0);
        x.tick(1);
        checks.due("NEAR in the tick: HELD", x.held(2, 0), 1);
    }

    static void promise10AMarkedPieceOfAGoneOneStays(Checks checks) {
        PieceSwarm x = markedAndHeldFromSeed();
        x.leave(2);
        x.leave(0);
        x.tick(8);
        checks.due("a gone one drops nothing", x.held(2, 0), 1);
        x.join(0);
        x.join(2);
        x.tick(1);
        checks.due("nor when both are HERE again", x.held(2, 0), 1);
    }

    static void promise10APieceThatIsNotMarkedIsNotDropped(Checks checks) {
        PieceSwarm x = Swarms.seedAndTaker(1, 2, 1, 1);
        x.tick(1);
        x.leave(0);
        x.tick(50);
        checks.due("HELD", x.held(1, 0), 1);
        checks.due("from the gone one", x.from(1, 0, 0), 0);
    }

    /** FALSE 1 sends three PIECES in one tick: for the second it is BANNED, and the third comes all the same. */
    static void promise10WhatABannedOneSentStillComes(Checks checks) {
        PieceSwarm x = Swarms.oneThatGotAll(3, 1, FALSE, 3);
        x.peer(PLAIN, 1, 3);
        x.meet(1, 2);
        checks.due("tick 5", x.tick(1), 3);
        checks.due("the second FAILED", x.about(2, 7), 1);
        checks.due("it is BANNED", x.pair(2, 1, 7), 1);
        checks.due("the first and the third are true", x.about(2, 2), 2);
        checks.due("the third from it", x.from(2, 2, 0), 1);
        checks.due("all came", x.about(2, 4), 3);
    }

    /** 2 BANS 1; so neither is open to the other one, nor NEAR to it, for good. */
    @Holds("and neither BANNED the other one.")
    static void promise10NearIfNeitherBannedTheOther(Checks checks) {
        PieceSwarm x = Swarms.seedAndFalseOne(1, 1, 2, 1);
        x.tick(1);
        checks.due("NEAR to the one who BANNED", x.pair(2, 1, 1), 0);
        checks.due("NEAR to the BANNED one", x.pair(1, 2, 1), 0);
        checks.due("open", x.pair(1, 2, 3) + x.pair(2, 1, 3), 0);
        checks.due("WANTS", x.pair(1, 2, 2) + x.pair(2, 1, 2), 0);
        checks.due("0 alone TELLS 2", x.rare(2, 0), 1);
        checks.due("0 and 2 are NEAR", x.pair(0, 2, 1) + x.pair(2, 0, 1), 2);
        checks.due("tick 6: of 0", x.tick(1), 1);
        checks.due("from 0", x.from(2, 0, 0), 0);
        checks.due("2 does not TELL 1 either", x.rare(1, 0), 1);
    }

    /** FALSE 1 has PIECE 0 alone, 2 has PIECE 1 alone, and each is open to the other one when 2 BANS 1. */
    @Holds("(Who isn't NEAR any more is not open to it any more.)")
    static void promise10WhoIsNotNearIsNotOpenEitherWay(Checks checks) {
        PieceSwarm x = Swarms.swarm(2, 1);
        x.peer(SEED, 1, 1);
        x.peer(FALSE, 1, 1);
        x.peer(PLAIN, 1, 1);
        x.peer(SEED, 1, 1);
        x.meet(0, 1);
        x.tick(1);
        x.leave(0);
        x.often(1, 1);
        x.meet(1, 2);
        x.meet(2, 3);
        x.tick(4);
        checks.due("2 HAS PIECE 1, the rarer", x.held(2, 1), 1);
        x.leave(3);
        x.leave(1);
        x.tick(3);
        x.join(1);
        checks.due("each WANTS of the other", x.pair(1, 2, 2) + x.pair(2, 1, 2), 2);
        checks.due("each gives one", x.tick(1), 2);
        checks.due("BANNED", x.pair(2, 1, 7), 1);
        checks.due("1 is not open to 2", x.pair(1, 2, 3) + x.about(1, 12), 0);
        checks.due("2 is not open to 1", x.pair(2, 1, 3) + x.about(2, 12), 0);
        checks.due("what came stays in the LATE number", x.pair(2, 1, 4), 1);
    }

    static void promise10ABanEndsTheOpeningToThatOneAlone(Checks checks) {
        PieceSwarm x = Swarms.oneThatGotAll(1, 1, FALSE, 1);
        x.often(1, 1);
        Swarms.add(x, 2, PLAIN, 1, 1);
        Swarms.meetAll(x, 1, 2, 3);
        checks.due("tick 5: to 2", x.tick(1), 1);
        checks.due("not open to 2", x.pair(1, 2, 3), 0);
        checks.due("open to 3", x.pair(1, 3, 3), 1);
        checks.due("open to one", x.about(1, 12), 1);
        checks.due("tick 6: to 3", x.tick(1), 1);
        checks.due("open to none", x.about(1, 12), 0);
        checks.due("NEAR to neither", x.pair(1, 2, 1) + x.pair(1, 3, 1), 0);
        checks.due("BANNED by both", x.pair(2, 1, 7) + x.pair(3, 1, 7), 2);
        checks.due("nor does it OPEN again", x.tick(4), 0);
    }

    /** The one who drops has the least number; as in the tests above, but for the numbers. */
    static void promise10AMarkedPieceOfTheFirstPeerIsDropped(Checks checks) {
        PieceSwarm x = Swarms.swarm(1, 2);
        x.peer(PLAIN, 1, 1);
        x.peer(SEED, 1, 1);
        x.peer(FALSE, 2, 2);
        x.often(2, 1);
        x.meet(1, 2);
        x.tick(4);
        Swarms.meetAll(x, 0, 1, 2);
        x.tick(1);
        x.leave(2);
        x.tick(2);
        checks.due("MARKED", x.about(0, 8), 1);
        checks.due("HELD from 1", x.from(0, 0, 0), 1);
        x.leave(1);
        x.tick(1);
        checks.due("dropped", x.held(0, 0), 0);
    }
}
