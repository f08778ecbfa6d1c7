import java.util.Arrays;

/** Promises 11 to 19 at their edges: what is answered of PEERS, of two of them, and of all. */
final class AnswerBoundaries implements Terms {
    private AnswerBoundaries() {
    }

    @Holds({
        "Of a PEER, what 0 KIND;",
        "another what."})
    static void promise11WhatNoughtToThirteen(Checks checks) {
        PieceSwarm x = Swarms.swarm(24, 4);
        x.peer(SEED, 1, 1);
        int[] answers = {SEED, 1, 24, 0, 0, 0, 0, 0, 0, 0, 0, 0, 0, 0};
        for (int what = 0; what <= 13; what++) {
            checks.due("about(0, " + what + ")", x.about(0, what), answers[what]);
        }
        for (int what : new int[] {LEAST, -1, 14, 15, GREATEST}) {
            checks.due("about(0, " + what + ")", x.about(0, what), NONE);
        }
    }

    @Holds("NONE: no such PEER,")
    static void promise11NoSuchPeer(Checks checks) {
        PieceSwarm x = new PieceSwarm();
        Swarms.add(x, 11, SHY, 1, 1);
        for (int p : new int[] {LEAST, -1, 11, 12, GREATEST}) {
            for (int what = -1; what <= 14; what++) {
                checks.due("about(" + p + ", " + what + ")", x.about(p, what), NONE);
            }
        }
        x.peer(FREE, 1, 1);
        checks.due("the twelfth", x.about(11, 0), FREE);
        checks.due("a thirteenth", x.about(12, 0), NONE);
    }

    @Holds("1 whether it is HERE;")
    static void promise11HereOrGone(Checks checks) {
        PieceSwarm x = new PieceSwarm();
        Swarms.add(x, 2, PLAIN, 1, 1);
        checks.due("new", x.about(0, 1), 1);
        x.leave(0);
        checks.due("gone", x.about(0, 1), 0);
        checks.due("the other one", x.about(1, 1), 1);
        x.tick(5);
        checks.due("gone still", x.about(0, 1), 0);
        x.join(0);
        checks.due("here again", x.about(0, 1), 1);
    }

    /** SEED 0 meets one by one and is open from the next opening on, to four at the most; then they go one by one. */
    @Holds("12 how many it is open to; 13 NEIGHBOURS.")
    static void promise11OpenToAndNeighbours(Checks checks) {
        PieceSwarm x = Swarms.swarm(24, 4);
        x.peer(SEED, 1, 1);
        Swarms.add(x, 5, PLAIN, 1, 1);
        for (int met = 1; met <= 5; met++) {
            x.meet(met, 0);
            checks.due("NEIGHBOURS", x.about(0, 13), met);
            checks.due("NEIGHBOURS of the other one", x.about(met, 13), 1);
            checks.due("open to, before a tick", x.about(0, 12), met - 1);
            x.tick(4);
            checks.due("open to", x.about(0, 12), Math.min(met, 4));
        }
        checks.due("the others are open to none", x.about(1, 12), 0);
        int open = 4;
        for (int p = 1; p <= 5; p++) {
            open -= x.pair(0, p, 3);
            x.leave(p);
            checks.due("open to those that are HERE", x.about(0, 12), open);
            checks.due("NEIGHBOURS still", x.about(0, 13), 5);
        }
        checks.due("open to none", open, 0);
    }

    /** A BLOCK a tick, from none to all 96. */
    @Holds({
        "2 PIECES that it HAS;",
        "3 BLOCKS that it HOLDS (of others);",
        "4 that came to it,",
        "5 that it sent;",
        "9 the tick in which it became DONE",
        "It is DONE if it HAS all."})
    static void promise11FromNoBlockToAll(Checks checks) {
        PieceSwarm x = Swarms.seedAndTaker(24, 4, 1, 1);
        for (int tick = 1; tick <= 96; tick++) {
            x.tick(1);
            checks.due("tick " + tick + ": HAS", x.about(1, 2), tick / 4);
            checks.due("tick " + tick + ": HOLDS of others", x.about(1, 3), tick % 4);
            checks.due("tick " + tick + ": came", x.about(1, 4), tick);
            checks.due("tick " + tick + ": DONE", x.about(1, 9), tick == 96 ? 96 : NONE);
        }
        checks.due("sent", x.about(0, 5), 96);
        checks.due("DONE, and HOLDS none", x.about(1, 3), 0);
    }

    /** 2 begins PIECE 1, the rarer, with SEED 0, which goes; then PIECE 0 with 1. */
    static void promise11HeldBlocksOfSeveralPieces(Checks checks) {
        PieceSwarm x = Swarms.swarm(2, 2);
        x.peer(SEED, 2, 1);
        x.peer(PLAIN, 1, 2);
        x.peer(PLAIN, 1, 1);
        x.meet(0, 1);
        x.tick(1);
        x.leave(1);
        x.join(1);
        Swarms.meetAll(x, 2, 0, 1);
        x.tick(4);
        x.leave(0);
        x.tick(1);
        checks.due("HELD of PIECE 0", x.held(2, 0), 1);
        checks.due("HELD of PIECE 1", x.held(2, 1), 1);
        checks.due("HELD in all", x.about(2, 3), 2);
        checks.due("HAS", x.about(2, 2), 0);
    }

    @Holds("(0 of SEEDS; NONE: it isn't);")
    static void promise11DoneInTheFirstTickAndNever(Checks checks) {
        PieceSwarm x = Swarms.seedAndTaker(1, 1, 1, 1);
        x.peer(PLAIN, 1, 1);
        checks.due("not yet", x.about(1, 9), NONE);
        x.tick(50);
        checks.due("a SEED: 0", x.about(0, 9), 0);
        checks.due("tick 1, also long behind it", x.about(1, 9), 1);
        checks.due("one who met nobody", x.about(2, 9), NONE);
    }

    /** SLOW 1 and 2 both send the one BLOCK: it is COMING twice, and one of the two is SPARE. */
    @Holds({
        "SPARE ones, too;",
        "6 SPARE ones;",
        "10 BLOCKS that are COMING to it;"})
    static void promise11TheSameBlockComingTwice(Checks checks) {
        PieceSwarm x = Swarms.swarm(1, 1);
        x.peer(SEED, 8, 1);
        Swarms.add(x, 2, SLOW, 1, 1);
        x.peer(PLAIN, 1, 8);
        Swarms.meetAll(x, 0, 1, 2);
        x.tick(4);
        x.leave(0);
        Swarms.meetAll(x, 3, 1, 2);
        x.tick(1);
        checks.due("COMING", x.about(3, 10), 2);
        x.tick(1);
        checks.due("asked no third time", x.about(3, 10), 2);
        x.tick(1);
        checks.due("came", x.about(3, 4), 2);
        checks.due("SPARE", x.about(3, 6), 1);
        checks.due("COMING no more", x.about(3, 10), 0);
    }

    /** The most that one can send one: 8 a tick, and of a SLOW one those of two ticks are COMING. */
    static void promise11TheMostThatIsComingFromOne(Checks checks) {
        PieceSwarm x = Swarms.swarm(24, 4);
        x.peer(SEED, 8, 1);
        x.peer(SLOW, 8, 8);
        x.peer(PLAIN, 1, 8);
        x.meet(0, 1);
        x.tick(12);
        checks.due("SLOW 1 is DONE", x.about(1, 9), 12);
        x.leave(0);
        x.meet(1, 2);
        int[] coming = {8, 16, 16};
        for (int i = 0; i < 3; i++) {
            x.tick(1);
            checks.due("tick " + (13 + i), x.about(2, 10), coming[i]);
        }
        x.tick(11);
        checks.due("tick 26: all came", x.about(2, 9), 26);
        checks.due("none is COMING", x.about(2, 10), 0);
    }

    /** Ten FALSE ones give the one PIECE: each in its turn FAILS and is BANNED, and the PIECE is MARKED once. */
    @Holds({
        "7 PIECES that FAILED;",
        "8 MARKED ones;",
        "11 how many PEERS it BANNED;"})
    static void promise11BansNoneToTen(Checks checks) {
        PieceSwarm x = Swarms.swarm(1, 1);
        x.peer(SEED, 8, 1);
        Swarms.add(x, 10, FALSE, 1, 1);
        x.peer(PLAIN, 1, 1);
        Swarms.meetAll(x, 0, 1, 10);
        for (int p = 1; p <= 10; p++) {
            x.often(p, 1);
        }
        x.tick(12);
        checks.due("all but the last are DONE", x.count(3), 11);
        Swarms.meetAll(x, 11, 1, 10);
        for (int bans = 1; bans <= 10; bans++) {
            x.tick(1);
            checks.due("BANNED", x.about(11, 11), bans);
            checks.due("FAILED", x.about(11, 7), bans);
            checks.due("MARKED", x.about(11, 8), 1);
            checks.due("the latest BANNED", x.pair(11, bans, 7), 1);
        }
        checks.due("nobody is left", x.tick(8), 0);
        checks.due("FAILED of all", x.count(9), 10);
        x.meet(0, 11);
        x.tick(4);
        checks.due("the SEED's is true", x.about(11, 2), 1);
    }

    /** FALSE 1 sends two false PIECES in one tick: both FAIL and are MARKED, and it is BANNED once. */
    static void promise11TwoFailsOfOneBannedOne(Checks checks) {
        PieceSwarm x = Swarms.oneThatGotAll(2, 1, FALSE, 2);
        x.often(1, 1);
        x.peer(PLAIN, 1, 2);
        x.meet(1, 2);
        x.tick(1);
        checks.due("FAILED", x.about(2, 7), 2);
        checks.due("MARKED", x.about(2, 8), 2);
        checks.due("BANNED", x.about(2, 11), 1);
        checks.due("DOUBTED twice", x.pair(2, 1, 6), 2);
    }

    static void promise11NoughtWithoutNeighbours(Checks checks) {
        PieceSwarm x = new PieceSwarm();
        x.peer(PLAIN, 1, 1);
        checks.due("NEIGHBOURS", x.about(0, 13), 0);
        checks.due("open to", x.about(0, 12), 0);
        checks.due("BANNED", x.about(0, 11), 0);
    }

    @Holds("Of a PEER and a PIECE: K if it HAS it, else how many BLOCKS it HOLDS.")
    static void promise12NoneToK(Checks checks) {
        for (int blocks = 1; blocks <= 4; blocks++) {
            PieceSwarm x = Swarms.seedAndTaker(2, blocks, 1, 1);
            checks.due("of a SEED", x.held(0, 1), blocks);
            for (int held = 0; held <= blocks; held++) {
                checks.due("of " + blocks, x.held(1, 0), held);
                checks.due("of the other PIECE", x.held(1, 1), 0);
                x.tick(1);
            }
        }
    }

    @Holds("NONE: no such ones.")
    static void promise12NoSuchOnes(Checks checks) {
        int[][] files = {{1, 1}, {24, 4}, {5, 2}};
        for (int[] file : files) {
            PieceSwarm x = Swarms.swarm(file[0], file[1]);
            x.peer(SEED, 1, 1);
            checks.due("the first PIECE", x.held(0, 0), file[1]);
            checks.due("the last PIECE", x.held(0, file[0] - 1), file[1]);
            for (int piece : new int[] {LEAST, -1, file[0], file[0] + 1, GREATEST}) {
                checks.due("held(0, " + piece + ")", x.held(0, piece), NONE);
            }
            for (int p : new int[] {LEAST, -1, 1, 12, GREATEST}) {
                checks.due("held(" + p + ", 0)", x.held(p, 0), NONE);
                checks.due("held(" + p + ", -1)", x.held(p, -1), NONE);
            }
        }
    }

    @Holds("or it had it from the beginning.")
    static void promise13NoneOfASeed(Checks checks) {
        PieceSwarm x = Swarms.swarm(24, 4);
        x.peer(SEED, 1, 1);
        for (int piece = 0; piece < 24; piece++) {
            for (int block = 0; block < 4; block++) {
                checks.due("from(0, " + piece + ", " + block + ")", x.from(0, piece, block), NONE);
            }
        }
    }

    @Holds({
        "From whom a BLOCK came that a PEER HOLDS, or of a PIECE that it HAS.",
        "it hasn't it,",
        "and each block led back to who gave it."})
    static void promise13HeldHadAndNeither(Checks checks) {
        PieceSwarm x = Swarms.seedAndTaker(2, 2, 3, 3);
        checks.due("nothing yet", x.from(1, 0, 0), NONE);
        x.tick(1);
        checks.due("of a PIECE that it HAS", x.from(1, 0, 1), 0);
        checks.due("of one that it HOLDS", x.from(1, 1, 0), 0);
        checks.due("neither", x.from(1, 1, 1), NONE);
        x.leave(0);
        checks.due("the giver is gone", x.from(1, 0, 1), 0);
    }

    static void promise13WhatIsComingIsNotHeld(Checks checks) {
        PieceSwarm x = Swarms.oneThatGotAll(1, 1, SLOW, 1);
        x.peer(PLAIN, 1, 1);
        x.meet(1, 2);
        x.tick(2);
        checks.due("COMING", x.from(2, 0, 0), NONE);
        checks.due("no VALUE of it", x.got(2, 0, 0), 0);
        x.tick(1);
        checks.due("it came", x.from(2, 0, 0), 1);
    }

    static void promise13TheTwelfthPeerGave(Checks checks) {
        PieceSwarm x = Swarms.swarm(24, 4);
        Swarms.add(x, 11, PLAIN, 1, 8);
        x.peer(SEED, 8, 1);
        x.meet(11, 0);
        x.tick(12);
        checks.due("the first", x.from(0, 0, 0), 11);
        checks.due("the last", x.from(0, 23, 3), 11);
    }

    @Holds("NONE: no such one,")
    static void promise13NoSuchOne(Checks checks) {
        PieceSwarm x = Swarms.seedAndTaker(3, 2, 8, 8);
        x.tick(1);
        checks.due("the last", x.from(1, 2, 1), 0);
        for (int piece : new int[] {LEAST, -1, 3, 23, 24, GREATEST}) {
            checks.due("from(1, " + piece + ", 0)", x.from(1, piece, 0), NONE);
        }
        for (int block : new int[] {LEAST, -1, 2, 3, 4, GREATEST}) {
            checks.due("from(1, 0, " + block + ")", x.from(1, 0, block), NONE);
        }
        for (int p : new int[] {LEAST, -1, 2, 12, GREATEST}) {
            checks.due("from(" + p + ", 0, 0)", x.from(p, 0, 0), NONE);
        }
    }

    static void promise14AllOfASeed(Checks checks) {
        for (int seed : new int[] {LEAST, -1, GREATEST}) {
            PieceSwarm x = Swarms.swarm(24, 4, seed);
            x.peer(SEED, 1, 1);
            for (int piece = 0; piece < 24; piece++) {
                for (int block = 0; block < 4; block++) {
                    checks.due("got(0, " + piece + ", " + block + ")", x.got(0, piece, block),
                        x.value(piece, block));
                }
            }
        }
    }

    @Holds("The VALUE of a BLOCK that a PEER HOLDS, or of a PIECE that it HAS;")
    static void promise14HeldHadAndNeither(Checks checks) {
        PieceSwarm x = Swarms.seedAndTaker(2, 2, 3, 3);
        checks.due("nothing yet", x.got(1, 0, 0), 0);
        x.tick(1);
        checks.due("of a PIECE that it HAS", x.got(1, 0, 1), x.value(0, 1));
        checks.due("of one that it HOLDS", x.got(1, 1, 0), x.value(1, 0));
        checks.due("neither", x.got(1, 1, 1), 0);
    }

    @Holds("A PEER HAS a PIECE, or HOLDS some of its BLOCKS (their VALUES, and from whom they came).")
    static void promise14AFalseValueIsHeldAsItCame(Checks checks) {
        PieceSwarm x = Swarms.oneThatGotAll(1, 2, FALSE, 1);
        x.often(1, 1);
        x.peer(PLAIN, 1, 1);
        x.meet(1, 2);
        x.tick(1);
        checks.due("the VALUE ^ 1", x.got(2, 0, 0), 12345 ^ 1);
        x.tick(1);
        checks.due("FAILED: none", x.got(2, 0, 0), 0);
    }

    @Holds("0 without one.")
    static void promise14NoSuchOne(Checks checks) {
        PieceSwarm x = Swarms.swarm(3, 2);
        x.peer(SEED, 1, 1);
        checks.due("the last", x.got(0, 2, 1), x.value(2, 1));
        for (int piece : new int[] {LEAST, -1, 3, 23, 24, GREATEST}) {
            checks.due("got(0, " + piece + ", 0)", x.got(0, piece, 0), 0);
        }
        for (int block : new int[] {LEAST, -1, 2, 3, 4, GREATEST}) {
            checks.due("got(0, 0, " + block + ")", x.got(0, 0, block), 0);
        }
        for (int p : new int[] {LEAST, -1, 1, 12, GREATEST}) {
            checks.due("got(" + p + ", 0, 0)", x.got(p, 0, 0), 0);
        }
    }

    /** Eleven SEEDS meet 11 one by one, then go one by one; a PEER does not count itself. */
    @Holds({
        "How many of those that are NEAR to a PEER TELL of a PIECE.",
        "Others TELL of all PIECES that they HAVE."})
    static void promise15NoneToEleven(Checks checks) {
        PieceSwarm x = Swarms.swarm(24, 4);
        Swarms.add(x, 12, SEED, 1, 1);
        for (int met = 0; met <= 11; met++) {
            checks.due("rare(11, 0)", x.rare(11, 0), met);
            checks.due("rare(11, 23)", x.rare(11, 23), met);
            x.meet(11, met);
        }
        for (int gone = 0; gone <= 10; gone++) {
            checks.due("HERE are " + (11 - gone), x.rare(11, 0), 11 - gone);
            x.leave(gone);
        }
        checks.due("all are gone", x.rare(11, 0), 0);
    }

    static void promise15OfOneThatIsGone(Checks checks) {
        PieceSwarm x = Swarms.seedAndTaker(1, 1, 1, 1);
        checks.due("HERE", x.rare(1, 0), 1);
        x.leave(1);
        checks.due("gone: nobody is NEAR", x.rare(1, 0), 0);
    }

    static void promise15HeldBlocksAreNotTold(Checks checks) {
        PieceSwarm x = Swarms.seedAndTaker(1, 4, 1, 1);
        x.tick(3);
        checks.due("HOLDS three of four", x.rare(0, 0), 0);
        x.tick(1);
        checks.due("HAS it", x.rare(0, 0), 1);
    }

    @Holds({
        "and it TELLS of PIECES of even numbers alone.",
        "and shy ones,"})
    static void promise15ShyOnesTellOfEvenNumbers(Checks checks) {
        PieceSwarm x = Swarms.swarm(24, 1);
        x.peer(SEED, 8, 1);
        x.peer(SHY, 1, 8);
        x.peer(PLAIN, 1, 1);
        x.meet(0, 1);
        x.tick(3);
        x.meet(1, 2);
        checks.due("the SHY one HAS all", x.about(1, 2), 24);
        for (int piece = 0; piece < 24; piece++) {
            checks.due("PIECE " + piece, x.rare(2, piece), piece % 2 == 0 ? 1 : 0);
        }
    }

    @Holds("NONE: no such ones.")
    static void promise15NoSuchOnes(Checks checks) {
        PieceSwarm x = Swarms.seedAndTaker(5, 1, 1, 1);
        checks.due("the last PIECE", x.rare(1, 4), 1);
        for (int piece : new int[] {LEAST, -1, 5, 24, GREATEST}) {
            checks.due("rare(1, " + piece + ")", x.rare(1, piece), NONE);
        }
        for (int p : new int[] {LEAST, -1, 2, 12, GREATEST}) {
            checks.due("rare(" + p + ", 0)", x.rare(p, 0), NONE);
            checks.due("rare(" + p + ", -1)", x.rare(p, -1), NONE);
        }
    }

    @Holds({
        "Of PEERS a and b, what 0 whether they are NEIGHBOURS;",
        "3 whether a is open to b;",
        "another what."})
    static void promise16WhatNoughtToEight(Checks checks) {
        PieceSwarm x = Swarms.seedAndTaker(24, 4, 1, 1);
        int[] before = {1, 1, 1, 0, 0, 0, 0, 0, 0};
        int[] behind = {1, 1, 1, 1, 1, 1, 0, 0, 0};
        for (int what = 0; what <= 8; what++) {
            checks.due("before a tick, pair(0, 1, " + what + ")", x.pair(0, 1, what), before[what]);
        }
        x.tick(1);
        for (int what = 0; what <= 8; what++) {
            checks.due("pair(0, 1, " + what + ")", x.pair(0, 1, what), behind[what]);
        }
        for (int what : new int[] {LEAST, -1, 9, 10, GREATEST}) {
            checks.due("pair(0, 1, " + what + ")", x.pair(0, 1, what), NONE);
        }
    }

    @Holds("or one and the same,")
    static void promise16OneAndTheSame(Checks checks) {
        PieceSwarm x = new PieceSwarm();
        Swarms.add(x, 12, PLAIN, 1, 1);
        for (int p = 0; p < 12; p++) {
            for (int what = -1; what <= 9; what++) {
                checks.due("pair(" + p + ", " + p + ", " + what + ")", x.pair(p, p, what), NONE);
            }
        }
    }

    @Holds("NONE: no such two,")
    static void promise16NoSuchTwo(Checks checks) {
        PieceSwarm x = new PieceSwarm();
        Swarms.add(x, 2, PLAIN, 1, 1);
        for (int p : new int[] {LEAST, -1, 2, 12, GREATEST}) {
            for (int what = 0; what <= 8; what++) {
                checks.due("pair(" + p + ", 0, " + what + ")", x.pair(p, 0, what), NONE);
                checks.due("pair(0, " + p + ", " + what + ")", x.pair(0, p, what), NONE);
            }
        }
        checks.due("the first and the last", x.pair(0, 1, 0), 0);
        checks.due("the last and the first", x.pair(1, 0, 0), 0);
    }

    static void promise16StrangersAreNothingToEachOther(Checks checks) {
        PieceSwarm x = Swarms.swarm(24, 4);
        x.peer(SEED, 8, 8);
        Swarms.add(x, 11, PLAIN, 8, 8);
        x.tick(5);
        for (int what = 0; what <= 8; what++) {
            checks.due("pair(0, 11, " + what + ")", x.pair(0, 11, what), 0);
            checks.due("pair(11, 0, " + what + ")", x.pair(11, 0, what), 0);
        }
    }

    @Holds("1 NEAR;")
    static void promise16NearBothWays(Checks checks) {
        PieceSwarm x = new PieceSwarm();
        Swarms.add(x, 2, PLAIN, 1, 1);
        checks.due("strangers", x.pair(0, 1, 1) + x.pair(1, 0, 1), 0);
        x.meet(0, 1);
        checks.due("they met", x.pair(0, 1, 1) + x.pair(1, 0, 1), 2);
        for (int goes = 0; goes <= 1; goes++) {
            x.leave(goes);
            checks.due(goes + " is gone", x.pair(0, 1, 1) + x.pair(1, 0, 1), 0);
            x.join(goes);
            checks.due(goes + " is here again", x.pair(0, 1, 1) + x.pair(1, 0, 1), 2);
        }
    }

    /** FALSE 1 gives two false PIECES to 2, and one to 3, in one tick each. */
    @Holds("6 how often a DOUBTED b; 7 whether a BANNED b;")
    static void promise16DoubtsAndBansGoOneWay(Checks checks) {
        PieceSwarm x = Swarms.oneThatGotAll(2, 1, FALSE, 3);
        x.often(1, 1);
        x.peer(PLAIN, 1, 2);
        x.peer(PLAIN, 1, 1);
        Swarms.meetAll(x, 1, 2, 3);
        x.meet(2, 3);
        checks.due("tick 5", x.tick(1), 3);
        int[][] doubts = {{1, 2, 0}, {1, 3, 0}, {2, 1, 2}, {2, 3, 0}, {3, 1, 1}, {3, 2, 0}, {0, 1, 0}, {1, 0, 0}};
        for (int[] row : doubts) {
            checks.due(row[0] + " DOUBTED " + row[1], x.pair(row[0], row[1], 6), row[2]);
            checks.due(row[0] + " BANNED " + row[1], x.pair(row[0], row[1], 7), row[2] > 0 ? 1 : 0);
        }
    }

    @Holds("2 whether b WANTS of a;")
    static void promise16WantsTillItHasTheLastPiece(Checks checks) {
        PieceSwarm x = Swarms.seedAndTaker(1, 4, 1, 1);
        for (int held = 0; held <= 3; held++) {
            checks.due("HOLDS " + held, x.pair(0, 1, 2), 1);
            x.tick(1);
        }
        checks.due("HAS it", x.pair(0, 1, 2), 0);
        checks.due("the SEED WANTS nothing", x.pair(1, 0, 2), 0);
        checks.due("open all the same till tick 5", x.pair(0, 1, 3), 1);
        x.tick(1);
        checks.due("not open any more", x.pair(0, 1, 3), 0);
    }

    /** SHY 1 HAS PIECE 1 alone of what 2 lacks, and does not TELL of it. */
    @Holds("b WANTS of a: they are NEAR, and a TELLS of a PIECE that b hasn't.")
    static void promise16NobodyWantsWhatAShyOneDoesNotTell(Checks checks) {
        PieceSwarm x = Swarms.swarm(2, 1);
        x.peer(SEED, 8, 1);
        x.peer(SHY, 1, 8);
        x.peer(PLAIN, 1, 1);
        Swarms.meetAll(x, 0, 1, 2);
        x.meet(1, 2);
        checks.due("nothing to TELL of", x.pair(1, 2, 2), 0);
        x.tick(1);
        checks.due("2 HAS PIECE 0", x.held(2, 0), 1);
        checks.due("2 WANTS of the SEED", x.pair(0, 2, 2), 1);
        checks.due("not of the SHY one", x.pair(1, 2, 2), 0);
    }

    @Holds({
        "4 the LATE number of b at a;",
        "5 BLOCKS that a sent to b;"})
    static void promise16SentGoesOnWhereLateBeginsAnew(Checks checks) {
        PieceSwarm x = Swarms.seedAndTaker(24, 4, 8, 8);
        for (int tick = 1; tick <= 12; tick++) {
            x.tick(1);
            checks.due("tick " + tick + ": sent", x.pair(0, 1, 5), 8 * tick);
            checks.due("tick " + tick + ": LATE", x.pair(0, 1, 4), 8 * ((tick - 1) % 4 + 1));
        }
        x.tick(1);
        checks.due("tick 13: LATE", x.pair(0, 1, 4), 0);
        checks.due("tick 13: sent", x.pair(0, 1, 5), 96);
    }

    @Holds("8 whether a is open to b BY TURNS (b was chosen so by a the latest time that a OPENED, and a is open to "
        + "it still; 1, 0).")
    static void promise16ByTurnsOnlyWhileItIsOpen(Checks checks) {
        PieceSwarm x = Swarms.swarm(24, 4);
        x.peer(SEED, 1, 1);
        Swarms.add(x, 4, PLAIN, 1, 1);
        Swarms.meetAll(x, 0, 1, 4);
        x.tick(1);
        checks.due("4 by turns", x.pair(0, 4, 8), 1);
        checks.due("3 not by turns", x.pair(0, 3, 8), 0);
        x.leave(4);
        checks.due("gone", x.pair(0, 4, 8), 0);
        x.join(4);
        checks.due("here again, not open", x.pair(0, 4, 8), 0);
        x.tick(4);
        checks.due("tick 5: by turns again", x.pair(0, 4, 8), 1);
        x.leave(1);
        x.tick(4);
        checks.due("tick 9: one of the three, so open", x.pair(0, 4, 3), 1);
        checks.due("tick 9: not by turns", x.pair(0, 4, 8), 0);
        x.join(1);
        x.tick(4);
        checks.due("tick 13: by turns", x.pair(0, 4, 8), 1);
        x.leave(0);
        checks.due("the giver is gone", x.pair(0, 4, 8), 0);
    }

    @Holds("How many PIECES no PEER that is HERE HAS;")
    static void promise17NoneHasAndAllHave(Checks checks) {
        for (int pieces : new int[] {1, 24}) {
            PieceSwarm x = Swarms.swarm(pieces, 4);
            checks.due("no PEERS", x.alone(NONE), pieces);
            x.peer(PLAIN, 1, 1);
            checks.due("one who has nothing", x.alone(NONE), pieces);
            checks.due("of that one", x.alone(0), 0);
            x.peer(SEED, 1, 1);
            checks.due("a SEED", x.alone(NONE), 0);
            checks.due("it alone HAS all", x.alone(1), pieces);
            x.peer(SEED, 1, 1);
            checks.due("two SEEDS", x.alone(1), 0);
            checks.due("of the other", x.alone(2), 0);
            x.leave(1);
            checks.due("one is gone", x.alone(2), pieces);
            checks.due("of the gone one", x.alone(1), 0);
            x.leave(2);
            checks.due("both are gone", x.alone(NONE), pieces);
            checks.due("of a gone one: none HERE HAS them", x.alone(1), pieces);
        }
    }

    static void promise17TheOnlyOneHasTheLeastOrTheGreatestNumber(Checks checks) {
        for (int only : new int[] {0, 11}) {
            PieceSwarm x = Swarms.swarm(24, 1);
            for (int p = 0; p < 12; p++) {
                x.peer(p == only ? SEED : PLAIN, 1, 1);
            }
            checks.due("none is missing", x.alone(NONE), 0);
            checks.due("alone(" + only + ")", x.alone(only), 24);
            checks.due("alone(" + (11 - only) + ")", x.alone(11 - only), 0);
        }
    }

    /** 1 HAS the PIECES 0 to 2, and 2 HAS PIECE 0; the SEED, gone, HAS all five. */
    @Holds("for p not NONE: how many that one HAS, but no other one that is HERE.")
    static void promise17EachHasSome(Checks checks) {
        PieceSwarm x = Swarms.swarm(5, 1);
        x.peer(SEED, 8, 1);
        x.peer(PLAIN, 1, 3);
        x.peer(PLAIN, 1, 1);
        Swarms.meetAll(x, 0, 1, 2);
        x.tick(1);
        checks.due("the SEED", x.alone(0), 2);
        checks.due("1, beside the SEED", x.alone(1), 0);
        x.leave(0);
        checks.due("missing", x.alone(NONE), 2);
        checks.due("1", x.alone(1), 2);
        checks.due("2", x.alone(2), 0);
        checks.due("the gone one", x.alone(0), 2);
    }

    /** What is HELD does not count, what a SHY one HAS does, though it does not TELL of it. */
    static void promise17HasAndNotHoldsOrTells(Checks checks) {
        PieceSwarm x = Swarms.swarm(2, 2);
        x.peer(SEED, 8, 1);
        x.peer(SHY, 1, 3);
        x.meet(0, 1);
        x.tick(1);
        checks.due("the SEED alone HAS PIECE 1", x.alone(0), 1);
        x.tick(1);
        checks.due("the SHY one HAS it, too", x.alone(0), 0);
        x.leave(0);
        checks.due("the SHY one alone", x.alone(1), 2);
        checks.due("none is missing", x.alone(NONE), 0);
    }

    @Holds("NONE: no such PEER.")
    static void promise17NoSuchPeer(Checks checks) {
        PieceSwarm x = new PieceSwarm();
        Swarms.add(x, 2, SEED, 1, 1);
        for (int p : new int[] {LEAST, -3, -2, 2, 3, 12, GREATEST}) {
            checks.due("alone(" + p + ")", x.alone(p), NONE);
        }
        checks.due("alone(-1) is of all", x.alone(-1), 0);
    }

    /** Rows of pieces, blocks, up rate of the SEED, down and up rate of the other one, and what is due. */
    @Holds("the greatest, cut up to whole numbers, of: the FILE's BLOCKS by the up rate of s;")
    static void promise18CutUpToWholeNumbers(Checks checks) {
        int[][] rows = {
            {1, 1, 8, 8, 8, 1}, {1, 1, 1, 1, 1, 1}, {2, 4, 8, 8, 8, 1}, {3, 3, 8, 8, 8, 2}, {7, 1, 8, 8, 8, 1},
            {24, 4, 1, 8, 8, 96}, {24, 4, 8, 1, 8, 96}, {24, 4, 8, 8, 8, 12}, {24, 4, 7, 8, 8, 14},
            {24, 4, 8, 7, 8, 14}, {24, 4, 5, 8, 1, 20}, {19, 1, 2, 8, 8, 10}, {20, 1, 2, 8, 8, 10},
            {21, 1, 2, 8, 8, 11}};
        for (int[] row : rows) {
            PieceSwarm x = Swarms.swarm(row[0], row[1]);
            x.peer(SEED, row[2], 1);
            x.peer(PLAIN, row[4], row[3]);
            checks.due(Arrays.toString(row), x.bound(0), row[5]);
        }
    }

    /** All BLOCKS times the others by all up rates: 96 times 11 by 24 is 44, by 23 it is 45.9, by 25 it is 42.2. */
    @Holds("all these BLOCKS times the other PEERS that are HERE by the up rates of all that are HERE together.")
    static void promise18AllBlocksByAllUpRates(Checks checks) {
        int[][] rows = {{15, 46}, {16, 44}, {17, 43}};
        for (int[] row : rows) {
            PieceSwarm x = Swarms.swarm(24, 4);
            x.peer(SEED, 8, 1);
            for (int i = 0; i < 11; i++) {
                x.peer(PLAIN, i < row[0] - 11 ? 2 : 1, 8);
            }
            checks.due("up rates 8 + " + row[0], x.bound(0), row[1]);
        }
    }

    @Holds("by the down rate of each other PEER that is HERE;")
    static void promise18EachOtherDownRateCounts(Checks checks) {
        for (int slowest = 1; slowest <= 11; slowest++) {
            PieceSwarm x = Swarms.swarm(24, 4);
            x.peer(SEED, 8, 1);
            for (int i = 1; i <= 11; i++) {
                x.peer(PLAIN, 8, i == slowest ? 1 : 8);
            }
            checks.due("down rate 1 of " + slowest, x.bound(0), 96);
            x.leave(slowest);
            checks.due("it is gone", x.bound(0), 12);
        }
    }

    static void promise18OfAnyOneThatIsDone(Checks checks) {
        PieceSwarm x = Swarms.oneThatGotAll(2, 4, PLAIN, 3);
        x.peer(PLAIN, 1, 8);
        checks.due("a PLAIN one that is DONE", x.bound(1), 3);
        checks.due("nobody needs to have met", x.about(2, 13), 0);
    }

    @Holds({
        "The BOUND, if s is HERE and DONE:",
        "not HERE, not DONE,"})
    static void promise18NotHereOrNotDone(Checks checks) {
        PieceSwarm x = Swarms.swarm(2, 1);
        x.peer(SEED, 1, 1);
        x.peer(PLAIN, 1, 1);
        checks.due("HERE and DONE", x.bound(0), 2);
        checks.due("not DONE", x.bound(1), NONE);
        x.leave(0);
        checks.due("not HERE", x.bound(0), NONE);
        x.join(0);
        checks.due("HERE again", x.bound(0), 2);
    }

    @Holds("there is no other one that is HERE,")
    static void promise18NoOtherOneHere(Checks checks) {
        PieceSwarm x = Swarms.swarm(2, 1);
        x.peer(SEED, 1, 1);
        checks.due("alone", x.bound(0), NONE);
        x.peer(PLAIN, 1, 1);
        checks.due("another one", x.bound(0), 2);
        x.leave(1);
        checks.due("it is gone", x.bound(0), NONE);
    }

    @Holds("or one of these HAS or HOLDS something,")
    static void promise18AnotherHasOrHolds(Checks checks) {
        PieceSwarm x = Swarms.seedAndTaker(24, 2, 1, 1);
        x.peer(PLAIN, 1, 1);
        checks.due("both have nothing", x.bound(0), 48);
        x.tick(1);
        checks.due("1 HOLDS a BLOCK", x.bound(0), NONE);
        x.tick(1);
        checks.due("1 HAS a PIECE and HOLDS none", x.bound(0), NONE);
        x.leave(1);
        checks.due("1 is gone, 2 has nothing", x.bound(0), 48);
        x.peer(SEED, 1, 1);
        checks.due("another SEED", x.bound(0), NONE);
    }

    @Holds("or something is COMING to it.")
    static void promise18SomethingIsComing(Checks checks) {
        PieceSwarm x = Swarms.oneThatGotAll(1, 1, SLOW, 1);
        x.peer(PLAIN, 1, 1);
        x.meet(1, 2);
        checks.due("nothing is COMING", x.bound(1), 1);
        x.tick(1);
        checks.due("COMING", x.bound(1), NONE);
        x.leave(2);
        x.join(2);
        checks.due("it is lost", x.bound(1), 1);
    }

    @Holds("NONE: no such PEER,")
    static void promise18NoSuchPeer(Checks checks) {
        PieceSwarm x = new PieceSwarm();
        x.peer(PLAIN, 1, 1);
        x.peer(SEED, 1, 1);
        checks.due("the last", x.bound(1), 1);
        for (int p : new int[] {LEAST, -1, 2, 3, 12, GREATEST}) {
            checks.due("bound(" + p + ")", x.bound(p), NONE);
        }
    }

    @Holds({
        "what 0 tick;",
        "4 N, 5 K; 6 BLOCKS sent in all; 7 that are COMING; 8 lost on their way;",
        "NONE for another what."})
    static void promise19WhatNoughtToTen(Checks checks) {
        PieceSwarm x = Swarms.oneThatGotAll(2, 3, SLOW, 4);
        x.peer(PLAIN, 1, 4);
        x.meet(1, 2);
        x.tick(1);
        int[] counts = {5, 3, 2, 1, 2, 3, 10, 4, 0, 0, 0};
        for (int what = 0; what <= 10; what++) {
            checks.due("count(" + what + ")", x.count(what), counts[what]);
        }
        for (int what : new int[] {LEAST, -1, 11, 12, GREATEST}) {
            checks.due("count(" + what + ")", x.count(what), NONE);
        }
        x.leave(2);
        checks.due("COMING", x.count(7), 0);
        checks.due("lost", x.count(8), 4);
    }

    @Holds("1 PEERS; 2 those HERE; 3 those HERE that are DONE;")
    static void promise19PeersHereAndDone(Checks checks) {
        PieceSwarm x = new PieceSwarm();
        for (int i = 0; i < 12; i++) {
            x.peer(SEED, 1, 1);
            checks.due("PEERS", x.count(1), i + 1);
            checks.due("HERE", x.count(2), i + 1);
            checks.due("DONE", x.count(3), i + 1);
        }
        x.leave(11);
        checks.due("PEERS, one gone", x.count(1), 12);
        checks.due("HERE, one gone", x.count(2), 11);
        checks.due("DONE, one gone", x.count(3), 11);
    }

    /** 0 gets one BLOCK of two SEEDS, so that one is SPARE, and 11 one of FALSE 3, which FAILS. */
    @Holds("9 FAILED PIECES of all; 10 SPARE ones of all.")
    static void promise19OfTheFirstAndTheLastPeer(Checks checks) {
        for (int spare : new int[] {0, 11}) {
            PieceSwarm x = Swarms.swarm(1, 1);
            for (int p = 0; p < 12; p++) {
                int kind = p == 1 || p == 2 ? SEED : p == 3 ? FALSE : PLAIN;
                x.peer(kind, 1, 2);
            }
            x.often(3, 1);
            x.meet(2, 3);
            x.tick(4);
            Swarms.meetAll(x, spare, 1, 2);
            x.meet(3, 11 - spare);
            checks.due("tick 5", x.tick(1), 3);
            checks.due("SPARE of " + spare, x.about(spare, 6), 1);
            checks.due("SPARE of all", x.count(10), 1);
            checks.due("FAILED of " + (11 - spare), x.about(11 - spare, 7), 1);
            checks.due("FAILED of all", x.count(9), 1);
        }
    }

    static void promise19GoneOnesCountInAll(Checks checks) {
        PieceSwarm x = Swarms.swarm(1, 1);
        Swarms.add(x, 2, SEED, 1, 1);
        x.peer(FALSE, 1, 1);
        x.peer(PLAIN, 1, 2);
        x.often(2, 1);
        x.meet(0, 2);
        x.tick(4);
        Swarms.meetAll(x, 3, 1, 2);
        checks.due("tick 5: of 1, at the END of 2", x.tick(1), 2);
        checks.due("SPARE", x.count(10), 1);
        x.peer(PLAIN, 1, 1);
        x.meet(2, 4);
        x.tick(4);
        checks.due("FAILED", x.count(9), 1);
        int sent = x.count(6);
        for (int p = 0; p < 5; p++) {
            x.leave(p);
        }
        checks.due("SPARE, all gone", x.count(10), 1);
        checks.due("FAILED, all gone", x.count(9), 1);
        checks.due("sent, all gone", x.count(6), sent);
        checks.due("HERE", x.count(2), 0);
    }
}
