/** Promises 5 to 9 at their edges: PEERS that come, meet, go and come again, and how often a FALSE one is false. */
final class PeerBoundaries implements Terms {
    private static final int[] NO_RATES = {LEAST, -1, 0, 9, 10, GREATEST};

    private PeerBoundaries() {
    }

    @Holds({
        "KINDS: 0 PLAIN;",
        "no such KIND,"})
    static void promise5KindsZeroToFive(Checks checks) {
        PieceSwarm x = new PieceSwarm();
        for (int kind = 0; kind <= 5; kind++) {
            checks.due("kind " + kind, x.peer(kind, 1, 1), kind);
            checks.due("its KIND", x.about(kind, 0), kind);
        }
        for (int kind : new int[] {LEAST, -1, 6, 7, GREATEST}) {
            checks.due("kind " + kind, x.peer(kind, 1, 1), NONE);
        }
        checks.due("PEERS", x.count(1), 6);
    }

    @Holds("rates not 1 to 8.")
    static void promise5RatesOneToEight(Checks checks) {
        PieceSwarm x = new PieceSwarm();
        checks.due("least rates", x.peer(PLAIN, 1, 1), 0);
        checks.due("greatest rates", x.peer(PLAIN, 8, 8), 1);
        checks.due("least up, greatest down", x.peer(PLAIN, 1, 8), 2);
        checks.due("greatest up, least down", x.peer(PLAIN, 8, 1), 3);
        for (int rate : NO_RATES) {
            checks.due("up " + rate, x.peer(PLAIN, rate, 1), NONE);
            checks.due("down " + rate, x.peer(PLAIN, 1, rate), NONE);
            checks.due("both " + rate, x.peer(PLAIN, rate, rate), NONE);
        }
        checks.due("PEERS", x.count(1), 4);
    }

    @Holds({
        "PEERS (at most 12, numbered from 0 on)",
        "NONE: there are 12,"})
    static void promise5TwelveAndNoThirteenth(Checks checks) {
        PieceSwarm x = new PieceSwarm();
        for (int i = 0; i < 12; i++) {
            checks.due("PEERS before", x.count(1), i);
            checks.due("the number", x.peer(PLAIN, 1, 1), i);
        }
        for (int kind = 0; kind <= 5; kind++) {
            checks.due("a thirteenth of kind " + kind, x.peer(kind, 1, 1), NONE);
        }
        checks.due("PEERS", x.count(1), 12);
        checks.due("HERE", x.count(2), 12);
        checks.due("about a thirteenth", x.about(12, 0), NONE);
    }

    static void promise5GoneOnesKeepTheirNumbers(Checks checks) {
        PieceSwarm x = new PieceSwarm();
        Swarms.add(x, 11, PLAIN, 1, 1);
        x.leave(3);
        checks.due("the twelfth does not take the gone one's number", x.peer(SLOW, 1, 1), 11);
        x.leave(11);
        checks.due("gone ones are PEERS still", x.peer(PLAIN, 1, 1), NONE);
        checks.due("the gone one's KIND", x.about(3, 0), PLAIN);
    }

    static void promise5ARefusedOneTakesNoNumber(Checks checks) {
        PieceSwarm x = new PieceSwarm();
        checks.due("refused", x.peer(6, 1, 1), NONE);
        checks.due("refused", x.peer(PLAIN, 9, 1), NONE);
        checks.due("the first", x.peer(PLAIN, 1, 1), 0);
        checks.due("refused", x.peer(PLAIN, 1, 0), NONE);
        checks.due("the second", x.peer(PLAIN, 1, 1), 1);
    }

    @Holds("A new PEER, HERE: its number;")
    static void promise5NewOnesAreHereAndHaveNothing(Checks checks) {
        PieceSwarm x = Swarms.swarm(24, 4);
        for (int kind = 0; kind <= 5; kind++) {
            int p = x.peer(kind, 1, 1);
            checks.due("HERE", x.about(p, 1), 1);
            checks.due("PIECES", x.about(p, 2), kind == SEED ? 24 : 0);
            checks.due("DONE", x.about(p, 9), kind == SEED ? 0 : NONE);
            for (int what = 3; what <= 13; what++) {
                if (what != 9) {
                    checks.due("about " + what, x.about(p, what), 0);
                }
            }
        }
    }

    @Holds("1 SEED: it HAS all PIECES from the beginning;")
    static void promise5ASeedHasAllFromTheBeginning(Checks checks) {
        int[][] files = {{1, 1}, {1, 4}, {24, 1}, {24, 4}};
        for (int[] file : files) {
            PieceSwarm x = Swarms.swarm(file[0], file[1]);
            x.tick(50);
            x.peer(SEED, 1, 1);
            checks.due("PIECES", x.about(0, 2), file[0]);
            checks.due("DONE in tick 0, though it came later", x.about(0, 9), 0);
            checks.due("HOLDS none", x.about(0, 3), 0);
            checks.due("the last PIECE", x.held(0, file[0] - 1), file[1]);
            checks.due("its last VALUE", x.got(0, file[0] - 1, file[1] - 1), x.value(file[0] - 1, file[1] - 1));
            checks.due("from nobody", x.from(0, file[0] - 1, file[1] - 1), NONE);
        }
    }

    /** What a tick sends is the lesser of the two rates, for each of the 64 pairs of them. */
    @Holds({
        "they have an up and a down rate (1 to 8 BLOCKS a tick).",
        "Then each PEER that is HERE may send as many BLOCKS as its up rate tells, and ask as many as its down rate "
            + "tells."})
    static void promise5RatesBind(Checks checks) {
        for (int up = 1; up <= 8; up++) {
            for (int down = 1; down <= 8; down++) {
                PieceSwarm x = Swarms.seedAndTaker(24, 4, up, down);
                checks.due("up " + up + ", down " + down, x.tick(1), Math.min(up, down));
                checks.due("and again", x.tick(1), Math.min(up, down));
            }
        }
    }

    @Holds({
        "(1 to 100)",
        "number."})
    static void promise6OneToAHundred(Checks checks) {
        PieceSwarm x = new PieceSwarm();
        x.peer(FALSE, 1, 1);
        for (int f = 1; f <= 100; f++) {
            checks.due("f " + f, x.often(0, f), true);
        }
        for (int f : new int[] {LEAST, -1, 0, 101, 102, GREATEST}) {
            checks.due("f " + f, x.often(0, f), false);
        }
        checks.due("the same f again", x.often(0, 100) && x.often(0, 100), true);
    }

    @Holds("another KIND,")
    static void promise6OnlyAFalseOne(Checks checks) {
        PieceSwarm x = new PieceSwarm();
        for (int kind = 0; kind <= 5; kind++) {
            x.peer(kind, 1, 1);
            checks.due("kind " + kind, x.often(kind, 2), kind == FALSE);
        }
    }

    @Holds("False: no such PEER,")
    static void promise6NoSuchPeer(Checks checks) {
        PieceSwarm x = new PieceSwarm();
        Swarms.add(x, 2, FALSE, 1, 1);
        checks.due("the first", x.often(0, 2), true);
        checks.due("the last", x.often(1, 2), true);
        for (int p : new int[] {LEAST, -1, 2, 3, 11, 12, GREATEST}) {
            checks.due("PEER " + p, x.often(p, 2), false);
        }
        Swarms.add(x, 10, FALSE, 1, 1);
        checks.due("the twelfth", x.often(11, 2), true);
        checks.due("a thirteenth", x.often(12, 2), false);
    }

    static void promise6OneThatIsGone(Checks checks) {
        PieceSwarm x = new PieceSwarm();
        x.peer(FALSE, 1, 1);
        x.leave(0);
        checks.due("gone", x.often(0, 3), true);
    }

    @Holds("(f 2 at first;")
    static void promise6TwoAtFirst(Checks checks) {
        PieceSwarm x = Swarms.oneThatGotAll(3, 1, FALSE, 1);
        x.peer(PLAIN, 1, 1);
        x.meet(1, 2);
        x.tick(1);
        checks.due("the first is true", x.about(2, 2), 1);
        checks.due("none FAILED", x.about(2, 7), 0);
        x.tick(1);
        checks.due("the second is false", x.about(2, 7), 1);
    }

    @Holds("has VALUE ^ 1;")
    static void promise6OneMakesEachBlockFalse(Checks checks) {
        PieceSwarm x = Swarms.oneThatGotAll(3, 2, FALSE, 1);
        x.often(1, 1);
        x.peer(PLAIN, 1, 1);
        x.meet(1, 2);
        x.tick(1);
        checks.due("the first is false", x.got(2, 0, 0), x.value(0, 0) ^ 1);
        x.tick(1);
        checks.due("so it FAILS", x.about(2, 7), 1);
    }

    /** Each f up to 8: of 8 BLOCKS, a tick and PIECE each, those before the f-th are true, and the f-th is false. */
    @Holds({
        "f of a FALSE PEER becomes another one",
        "3 FALSE: of the BLOCKS that it sends each f-th"})
    static void promise6TheFthIsTheFirstFalseOne(Checks checks) {
        for (int f = 1; f <= 8; f++) {
            PieceSwarm x = Swarms.oneThatGotAll(8, 1, FALSE, 1);
            x.often(1, f);
            x.peer(PLAIN, 1, 1);
            x.meet(1, 2);
            for (int sent = 1; sent <= f; sent++) {
                checks.due("f " + f + ", FAILED before " + sent, x.about(2, 7), 0);
                x.tick(1);
            }
            checks.due("f " + f + ", true ones", x.about(2, 2), f - 1);
            checks.due("f " + f + ", FAILED", x.about(2, 7), 1);
        }
    }

    /** FALSE 1 gives four BLOCKS a tick, to ten that meet it alone: 96 in 24 ticks, the 100th in the next one. */
    static void promise6AHundred(Checks checks) {
        PieceSwarm x = Swarms.swarm(24, 1);
        x.peer(SEED, 8, 1);
        x.peer(FALSE, 4, 8);
        x.often(1, 100);
        x.meet(0, 1);
        x.tick(4);
        x.leave(0);
        Swarms.add(x, 10, PLAIN, 1, 8);
        Swarms.meetAll(x, 1, 2, 11);
        checks.due("24 ticks", x.tick(24), 96);
        checks.due("none of 96 is false", x.count(9), 0);
        checks.due("the 25th tick", x.tick(1), 4);
        checks.due("the hundredth is", x.count(9), 1);
        int pieces = 0;
        for (int p = 2; p <= 11; p++) {
            pieces += x.about(p, 2);
        }
        checks.due("the 99 others are true", pieces, 99);
    }

    @Holds("counted over all that it sends)")
    static void promise6CountsOverAllTakers(Checks checks) {
        PieceSwarm x = Swarms.oneThatGotAll(2, 1, FALSE, 2);
        Swarms.add(x, 2, PLAIN, 1, 1);
        x.meet(1, 2);
        x.meet(1, 3);
        checks.due("one to each", x.tick(1), 2);
        checks.due("the first, to 2, is true", x.about(2, 2), 1);
        checks.due("the second, to 3, is false", x.about(3, 7), 1);
    }

    /** The first that FALSE 1 sends, at the END to 2, is SPARE; yet it counts, so that its second one is false. */
    @Holds("counted over all that it sends)")
    static void promise6SpareOnesCountToo(Checks checks) {
        PieceSwarm x = Swarms.swarm(1, 1);
        x.peer(SEED, 8, 1);
        x.peer(FALSE, 1, 1);
        x.peer(PLAIN, 1, 2);
        x.peer(PLAIN, 1, 1);
        x.meet(0, 1);
        x.tick(4);
        Swarms.meetAll(x, 2, 0, 1);
        checks.due("tick 5", x.tick(1), 2);
        checks.due("SPARE", x.about(2, 6), 1);
        x.meet(1, 3);
        checks.due("tick 9", x.tick(4), 1);
        checks.due("it is false", x.about(3, 7), 1);
    }

    /** Three were sent when f becomes 2: the fourth is false, as it would not be if a count began anew. */
    static void promise6AnotherFGoesOnWithTheCount(Checks checks) {
        PieceSwarm x = Swarms.oneThatGotAll(8, 1, FALSE, 1);
        x.often(1, 100);
        x.peer(PLAIN, 1, 1);
        x.meet(1, 2);
        x.tick(3);
        checks.due("three are true", x.about(2, 2), 3);
        x.often(1, 2);
        x.tick(1);
        checks.due("the fourth is false", x.about(2, 7), 1);
    }

    static void promise6ARefusedFChangesNothing(Checks checks) {
        PieceSwarm x = Swarms.oneThatGotAll(8, 1, FALSE, 1);
        x.often(1, 3);
        x.often(1, 0);
        x.often(1, 101);
        x.peer(PLAIN, 1, 1);
        x.meet(1, 2);
        x.tick(2);
        checks.due("two are true", x.about(2, 2), 2);
        x.tick(1);
        checks.due("the third is false", x.about(2, 7), 1);
    }

    @Holds("False: no such two,")
    static void promise7NoSuchTwo(Checks checks) {
        PieceSwarm x = new PieceSwarm();
        Swarms.add(x, 3, PLAIN, 1, 1);
        for (int p : new int[] {LEAST, -1, 3, 4, 11, 12, GREATEST}) {
            checks.due("a " + p, x.meet(p, 0), false);
            checks.due("b " + p, x.meet(0, p), false);
            checks.due("both " + p, x.meet(p, p), false);
        }
        checks.due("the first and the last", x.meet(0, 2), true);
    }

    static void promise7NotItself(Checks checks) {
        PieceSwarm x = new PieceSwarm();
        Swarms.add(x, 12, PLAIN, 1, 1);
        for (int p = 0; p < 12; p++) {
            checks.due("itself, " + p, x.meet(p, p), false);
            checks.due("its NEIGHBOURS", x.about(p, 13), 0);
        }
    }

    @Holds({
        "or they are NEIGHBOURS already.",
        "NEIGHBOURS are two PEERS that met;"})
    static void promise7AllOfTwelveMeetOnce(Checks checks) {
        PieceSwarm x = new PieceSwarm();
        Swarms.add(x, 12, PLAIN, 1, 1);
        for (int a = 0; a < 12; a++) {
            for (int b = a + 1; b < 12; b++) {
                checks.due("meet " + a + " " + b, x.meet(a, b), true);
                checks.due("again", x.meet(a, b), false);
                checks.due("the other way", x.meet(b, a), false);
            }
        }
        for (int p = 0; p < 12; p++) {
            checks.due("NEIGHBOURS of " + p, x.about(p, 13), 11);
        }
    }

    @Holds({
        "Two PEERS meet (HERE or not).",
        "they are NEAR if both are HERE"})
    static void promise7OneOrBothGone(Checks checks) {
        PieceSwarm x = new PieceSwarm();
        Swarms.add(x, 3, PLAIN, 1, 1);
        x.leave(0);
        checks.due("the first is gone", x.meet(0, 1), true);
        checks.due("the second is gone", x.meet(2, 0), true);
        x.leave(1);
        x.leave(2);
        checks.due("both are gone", x.meet(1, 2), true);
        checks.due("they are NEIGHBOURS already", x.meet(2, 1), false);
        checks.due("NEIGHBOURS", x.about(1, 13), 2);
        checks.due("not NEAR", x.pair(1, 2, 1), 0);
        x.join(1);
        checks.due("not NEAR with one HERE", x.pair(1, 2, 1), 0);
        x.join(2);
        checks.due("NEAR with both", x.pair(1, 2, 1), 1);
    }

    static void promise7BannedOnesAreNeighboursStill(Checks checks) {
        PieceSwarm x = Swarms.oneThatGotAll(1, 1, FALSE, 1);
        x.often(1, 1);
        x.peer(PLAIN, 1, 1);
        x.meet(1, 2);
        x.tick(1);
        checks.due("BANNED", x.pair(2, 1, 7), 1);
        checks.due("they met already", x.meet(1, 2), false);
        checks.due("NEIGHBOURS", x.pair(1, 2, 0), 1);
    }

    @Holds("False: no such one,")
    static void promise8NoSuchOne(Checks checks) {
        PieceSwarm x = new PieceSwarm();
        Swarms.add(x, 2, PLAIN, 1, 1);
        for (int p : new int[] {LEAST, -1, 2, 3, 11, 12, GREATEST}) {
            checks.due("PEER " + p, x.leave(p), false);
        }
        checks.due("HERE", x.count(2), 2);
        checks.due("the first", x.leave(0), true);
        checks.due("the last", x.leave(1), true);
    }

    @Holds({
        "A PEER goes.",
        "or it isn't HERE.",
        "are HERE or gone;",
        "To go: a PEER is not HERE;"})
    static void promise8OneThatIsNotHere(Checks checks) {
        PieceSwarm x = new PieceSwarm();
        Swarms.add(x, 2, PLAIN, 1, 1);
        checks.due("leave", x.leave(1), true);
        checks.due("again", x.leave(1), false);
        checks.due("HERE", x.count(2), 1);
        checks.due("join", x.join(1), true);
        checks.due("leave once more", x.leave(1), true);
    }

    static void promise8AllTwelveGo(Checks checks) {
        PieceSwarm x = new PieceSwarm();
        Swarms.add(x, 12, SEED, 1, 1);
        for (int p = 0; p < 12; p++) {
            checks.due("leave " + p, x.leave(p), true);
            checks.due("HERE", x.count(2), 11 - p);
        }
        checks.due("PEERS", x.count(1), 12);
        checks.due("DONE and HERE", x.count(3), 0);
        checks.due("nothing is sent", x.tick(50), 0);
        checks.due("lost", x.count(8), 0);
    }

    static void promise8NothingComingNothingLost(Checks checks) {
        PieceSwarm x = Swarms.seedAndTaker(24, 4, 8, 8);
        x.tick(3);
        x.leave(0);
        x.leave(1);
        checks.due("lost", x.count(8), 0);
        checks.due("what came", x.about(1, 4), 24);
    }

    /** SLOW 1 gives to SLOW 2, and this to PLAIN 3: as 2 goes in tick 9, two were COMING to it and one from it. */
    @Holds("what is COMING to it or from it is lost;")
    static void promise8LosesWhatIsComingToItAndFromIt(Checks checks) {
        PieceSwarm x = Swarms.swarm(24, 1);
        x.peer(SEED, 8, 1);
        x.peer(SLOW, 1, 8);
        x.peer(SLOW, 1, 1);
        x.peer(PLAIN, 1, 1);
        x.meet(0, 1);
        x.tick(4);
        x.leave(0);
        x.meet(1, 2);
        x.meet(2, 3);
        checks.due("1 gives one a tick", x.tick(4), 4);
        checks.due("1 and 2 give", x.tick(1), 2);
        checks.due("COMING to 2", x.about(2, 10), 2);
        checks.due("COMING to 3", x.about(3, 10), 1);
        checks.due("COMING", x.count(7), 3);
        checks.due("2 goes", x.leave(2), true);
        checks.due("lost", x.count(8), 3);
        checks.due("COMING to 2 now", x.about(2, 10), 0);
        checks.due("COMING to 3 now", x.about(3, 10), 0);
        checks.due("COMING now", x.count(7), 0);
        x.join(2);
        x.tick(2);
        checks.due("what was lost comes no more", x.about(3, 4), 0);
        checks.due("nor to 2", x.about(2, 4), 3);
    }

    /** In tick 5 SLOW 1 sends to 2, 3 and 2: as one of them goes, what is COMING to the other one still comes. */
    static void promise8LosesItsOwnAlone(Checks checks) {
        int[] coming = {0, 0, 2, 1};
        for (int goes = 2; goes <= 3; goes++) {
            PieceSwarm x = Swarms.oneThatGotAll(1, 2, SLOW, 3);
            x.peer(PLAIN, 1, 2);
            x.peer(PLAIN, 1, 1);
            Swarms.meetAll(x, 1, 2, 3);
            checks.due("tick 5", x.tick(1), 3);
            x.leave(goes);
            int stays = 5 - goes;
            checks.due("lost with " + goes, x.count(8), coming[goes]);
            checks.due("COMING still", x.count(7), coming[stays]);
            checks.due("to the other one", x.about(stays, 10), coming[stays]);
            x.tick(2);
            checks.due("it came", x.held(stays, 0), coming[stays]);
            checks.due("none to the gone one", x.about(goes, 4), 0);
        }
    }

    @Holds("it opens to nobody, nobody to it.")
    static void promise8OpensToNobodyAndNobodyToIt(Checks checks) {
        PieceSwarm x = Swarms.swarm(2, 1);
        x.peer(SEED, 1, 1);
        Swarms.add(x, 2, PLAIN, 1, 1);
        Swarms.meetAll(x, 0, 1, 2);
        x.tick(1);
        checks.due("open to both", x.about(0, 12), 2);
        x.leave(1);
        checks.due("not to the gone one", x.pair(0, 1, 3), 0);
        checks.due("to the other one", x.pair(0, 2, 3), 1);
        x.leave(0);
        checks.due("the gone one to nobody", x.about(0, 12), 0);

        PieceSwarm y = Swarms.oneThatGotAll(2, 1, PLAIN, 1);
        y.peer(PLAIN, 1, 1);
        y.meet(1, 2);
        y.tick(1);
        y.leave(1);
        checks.due("a giver of another number", y.about(1, 12), 0);
    }

    @Holds("MARKS, DOUBTS, BANS.")
    static void promise8KeepsMarksDoubtsAndBans(Checks checks) {
        PieceSwarm x = Swarms.seedAndFalseOne(1, 1, 2, 1);
        x.tick(1);
        checks.due("BANNED", x.pair(2, 1, 7), 1);
        for (int here = 0; here <= 1; here++) {
            if (here == 0) {
                x.leave(2);
            } else {
                x.join(2);
            }
            checks.due("MARKED", x.about(2, 8), 1);
            checks.due("DOUBTED", x.pair(2, 1, 6), 1);
            checks.due("BANNED still", x.pair(2, 1, 7), 1);
            checks.due("FAILED", x.about(2, 7), 1);
            checks.due("NEAR", x.pair(2, 1, 1), 0);
            checks.due("NEIGHBOURS", x.about(2, 13), 2);
        }
    }

    @Holds("It keeps what it HAS and HOLDS,")
    static void promise8KeepsWhatItHasAndHolds(Checks checks) {
        PieceSwarm x = Swarms.seedAndTaker(2, 2, 3, 3);
        x.tick(1);
        x.leave(0);
        x.leave(1);
        checks.due("the SEED HAS all", x.about(0, 2), 2);
        checks.due("it is DONE", x.about(0, 9), 0);
        checks.due("the taker HAS one", x.about(1, 2), 1);
        checks.due("and HOLDS one", x.about(1, 3), 1);
        checks.due("from the SEED", x.from(1, 1, 0), 0);
        checks.due("its VALUE", x.got(1, 1, 0), x.value(1, 0));
        x.tick(8);
        checks.due("ticks change nothing of it", x.held(1, 1), 1);
    }

    /** What was counted stays, too: whom SEED 0 gave how much, and that 4 had the turn, so that the next one is 5's. */
    static void promise8KeepsWhatItSentAndWhoseTurnItWas(Checks checks) {
        PieceSwarm x = Swarms.swarm(24, 4);
        x.peer(SEED, 2, 1);
        Swarms.add(x, 6, PLAIN, 1, 1);
        Swarms.meetAll(x, 0, 1, 6);
        checks.due("tick 1: to 1 and 2", x.tick(1), 2);
        checks.due("the turn of 4", x.pair(0, 4, 8), 1);
        x.leave(0);
        x.leave(1);
        checks.due("sent to 1", x.pair(0, 1, 5), 1);
        checks.due("the LATE number of 1", x.pair(0, 1, 4), 1);
        checks.due("the LATE number at 1", x.pair(1, 0, 4), 1);
        checks.due("sent", x.about(0, 5), 2);
        checks.due("came", x.about(1, 4), 1);
        x.join(0);
        x.join(1);
        x.tick(4);
        checks.due("tick 5: the turn of 5", x.pair(0, 5, 8), 1);
        checks.due("sent to 1 in all", x.pair(0, 1, 5), 2);
    }

    /** What SLOW 1 sent is lost as 2 goes: it was sent all the same. */
    static void promise8WhatIsLostWasSent(Checks checks) {
        PieceSwarm x = Swarms.oneThatGotAll(1, 2, SLOW, 2);
        x.peer(PLAIN, 1, 2);
        x.meet(1, 2);
        checks.due("tick 5", x.tick(1), 2);
        x.leave(2);
        checks.due("lost", x.count(8), 2);
        checks.due("sent by 1", x.about(1, 5), 2);
        checks.due("sent to 2", x.pair(1, 2, 5), 2);
        checks.due("the LATE number of 2", x.pair(1, 2, 4), 2);
        checks.due("sent in all", x.count(6), 4);
        checks.due("none came to 2", x.about(2, 4), 0);
        checks.due("nor does it count as SPARE", x.about(2, 6), 0);
    }

    @Holds("False: no such one,")
    static void promise9NoSuchOne(Checks checks) {
        PieceSwarm x = new PieceSwarm();
        Swarms.add(x, 2, PLAIN, 1, 1);
        x.leave(0);
        x.leave(1);
        for (int p : new int[] {LEAST, -1, 2, 3, 11, 12, GREATEST}) {
            checks.due("PEER " + p, x.join(p), false);
        }
        checks.due("HERE", x.count(2), 0);
        checks.due("the first", x.join(0), true);
        checks.due("the last", x.join(1), true);
        checks.due("both HERE", x.count(2), 2);
    }

    @Holds({
        "A PEER is HERE again.",
        "or it is HERE."})
    static void promise9OneThatIsHere(Checks checks) {
        PieceSwarm x = new PieceSwarm();
        x.peer(PLAIN, 1, 1);
        checks.due("a new one", x.join(0), false);
        x.leave(0);
        checks.due("a gone one", x.join(0), true);
        checks.due("again", x.join(0), false);
        checks.due("HERE", x.about(0, 1), 1);
    }

    static void promise9AllTwelveComeAgain(Checks checks) {
        PieceSwarm x = new PieceSwarm();
        Swarms.add(x, 12, PLAIN, 1, 1);
        for (int p = 0; p < 12; p++) {
            x.leave(p);
        }
        for (int p = 0; p < 12; p++) {
            checks.due("join " + p, x.join(p), true);
            checks.due("HERE", x.count(2), p + 1);
        }
    }

    /** Gone and here again in one breath, behind tick 2: it was open, and opens no sooner than in tick 5. */
    static void promise9IsOpenOnlyFromTheNextOpeningOn(Checks checks) {
        for (int goes = 0; goes <= 1; goes++) {
            PieceSwarm x = Swarms.seedAndTaker(24, 4, 1, 1);
            checks.due("open in ticks 1 and 2", x.tick(2), 2);
            x.leave(goes);
            x.join(goes);
            checks.due("NEAR", x.pair(0, 1, 1), 1);
            checks.due("not open", x.pair(0, 1, 3), 0);
            checks.due("nor in ticks 3 and 4", x.tick(2), 0);
            checks.due("but in tick 5", x.tick(1), 1);
        }
    }

    @Holds("comers and goers,")
    static void promise9JoinedBeforeTickFiveOpensInIt(Checks checks) {
        PieceSwarm x = Swarms.seedAndTaker(24, 4, 1, 1);
        x.leave(0);
        checks.due("nobody gives", x.tick(4), 0);
        x.join(0);
        checks.due("tick 5", x.tick(1), 1);
        checks.due("it comes from 0", x.from(1, 0, 0), 0);
    }
}
