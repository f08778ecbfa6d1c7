/** Promises 1 to 4 at their edges: the new object, the FILE, its VALUES and SUMS. */
final class FileBoundaries implements Terms {
    private static final int[] NO_PIECES = {LEAST, -1, 0, 25, 26, GREATEST};
    private static final int[] NO_BLOCKS = {LEAST, -1, 0, 5, 6, GREATEST};

    private FileBoundaries() {
    }

    private static void dueFile(Checks checks, PieceSwarm x, int pieces, int blocks) {
        checks.due("N", x.count(4), pieces);
        checks.due("K", x.count(5), blocks);
    }

    @Holds("A FILE of one PIECE of one BLOCK, seed 0;")
    static void promise1FileOfOnePieceOfOneBlockOfSeedZero(Checks checks) {
        PieceSwarm x = new PieceSwarm();
        dueFile(checks, x, 1, 1);
        checks.due("the VALUE of seed 0", x.value(0, 0), 12345);
        checks.due("the SUM of seed 0", x.sum(0), 12345);
        checks.due("no second PIECE", x.value(1, 0), 0);
        checks.due("no second BLOCK", x.value(0, 1), 0);
        checks.due("no second SUM", x.sum(1), 0);
        checks.due("no PEER HAS it", x.alone(NONE), 1);
    }

    @Holds("The constants: NONE = -1: There is none.")
    static void promise1NoneIsMinusOne(Checks checks) {
        checks.due("NONE", PieceSwarm.NONE, -1);
        checks.due("what is answered if there is none", new PieceSwarm().about(0, 0), PieceSwarm.NONE);
    }

    @Holds("no PEERS; tick 0.")
    static void promise1TickZeroAndNothingSent(Checks checks) {
        PieceSwarm x = new PieceSwarm();
        for (int what : new int[] {0, 1, 2, 3, 6, 7, 8, 9, 10}) {
            checks.due("count(" + what + ")", x.count(what), 0);
        }
    }

    static void promise1NoPeersToAskOf(Checks checks) {
        PieceSwarm x = new PieceSwarm();
        for (int what = 0; what <= 13; what++) {
            checks.due("about(0, " + what + ")", x.about(0, what), NONE);
        }
        for (int what = 0; what <= 8; what++) {
            checks.due("pair(0, 1, " + what + ")", x.pair(0, 1, what), NONE);
        }
        checks.due("held", x.held(0, 0), NONE);
        checks.due("from", x.from(0, 0, 0), NONE);
        checks.due("got", x.got(0, 0, 0), 0);
        checks.due("rare", x.rare(0, 0), NONE);
        checks.due("alone", x.alone(0), NONE);
        checks.due("bound", x.bound(0), NONE);
    }

    static void promise1NoPeersToChange(Checks checks) {
        PieceSwarm x = new PieceSwarm();
        checks.due("often", x.often(0, 2), false);
        checks.due("meet", x.meet(0, 1), false);
        checks.due("leave", x.leave(0), false);
        checks.due("join", x.join(0), false);
        checks.due("the first PEER is 0", x.peer(PLAIN, 1, 1), 0);
    }

    static void promise1ObjectsAreApart(Checks checks) {
        PieceSwarm x = new PieceSwarm();
        PieceSwarm y = new PieceSwarm();
        x.file(24, 4, 9);
        x.peer(SEED, 8, 8);
        x.tick(50);
        dueFile(checks, y, 1, 1);
        checks.due("the other one's VALUE", y.value(0, 0), 12345);
        checks.due("the other one's PEERS", y.count(1), 0);
        checks.due("the other one's tick", y.count(0), 0);
    }

    @Holds("An object is used for at most 512 calls after it has been made; what later calls answer is free.")
    static void promise1FiveHundredTwelveCalls(Checks checks) {
        PieceSwarm x = new PieceSwarm();
        for (int call = 1; call <= 511; call++) {
            checks.due("tick(50) as call " + call, x.tick(50), 0);
        }
        checks.due("the tick as call 512", x.count(0), 511 * 50);
    }

    @Holds("1. THE FILE has N PIECES (1 to 24)")
    static void promise2PiecesOneToTwentyFour(Checks checks) {
        PieceSwarm x = new PieceSwarm();
        for (int pieces = 1; pieces <= 24; pieces++) {
            checks.due("file of " + pieces + " PIECES", x.file(pieces, 1, 0), true);
            dueFile(checks, x, pieces, 1);
            checks.due("the last PIECE", x.value(pieces - 1, 0) != 0, true);
            checks.due("one behind it", x.value(pieces, 0), 0);
        }
        for (int pieces : NO_PIECES) {
            checks.due("file of " + pieces + " PIECES", x.file(pieces, 1, 0), false);
            dueFile(checks, x, 24, 1);
        }
    }

    @Holds("of K BLOCKS (1 to 4), each a VALUE:")
    static void promise2BlocksOneToFour(Checks checks) {
        PieceSwarm x = new PieceSwarm();
        for (int blocks = 1; blocks <= 4; blocks++) {
            checks.due("file of " + blocks + " BLOCKS", x.file(1, blocks, 0), true);
            dueFile(checks, x, 1, blocks);
            checks.due("the last BLOCK", x.value(0, blocks - 1) != 0, true);
            checks.due("one behind it", x.value(0, blocks), 0);
        }
        for (int blocks : NO_BLOCKS) {
            checks.due("file of " + blocks + " BLOCKS", x.file(1, blocks, 0), false);
            dueFile(checks, x, 1, 4);
        }
    }

    @Holds("False: numbers are not as told,")
    static void promise2BothNumbersMustBeAsTold(Checks checks) {
        PieceSwarm x = Swarms.swarm(3, 2, 1);
        for (int pieces : NO_PIECES) {
            for (int blocks : NO_BLOCKS) {
                checks.due("file(" + pieces + ", " + blocks + ", 7)", x.file(pieces, blocks, 7), false);
            }
        }
        dueFile(checks, x, 3, 2);
        checks.due("the seed stays", x.value(0, 0), 1103559978);
    }

    static void promise2AnyIntIsASeed(Checks checks) {
        PieceSwarm x = new PieceSwarm();
        for (int seed : new int[] {LEAST, LEAST + 1, -1, 0, 1, GREATEST - 1, GREATEST}) {
            checks.due("seed " + seed, x.file(1, 1, seed), true);
        }
        checks.due("the VALUE of the greatest seed", x.value(0, 0), 1043963327);
        checks.due("the least one", x.file(1, 1, LEAST), true);
        checks.due("the VALUE of the least seed", x.value(0, 0), -2147405767);
    }

    @Holds("The FILE becomes another one.")
    static void promise2ASmallerOneForgetsTheGreaterOne(Checks checks) {
        PieceSwarm x = Swarms.swarm(24, 4, 0);
        checks.due("the greatest FILE's last BLOCK", x.value(23, 3), 1754766210);
        checks.due("a smaller FILE", x.file(2, 2, 0), true);
        checks.due("no such PIECE any more", x.value(2, 0), 0);
        checks.due("no such BLOCK any more", x.value(0, 2), 0);
        checks.due("no such SUM any more", x.sum(2), 0);
        checks.due("PIECES that none HAS", x.alone(NONE), 2);
        checks.due("a SEED of the smaller one", x.peer(SEED, 1, 1), 0);
        checks.due("it HAS two", x.about(0, 2), 2);
    }

    static void promise2TheSameFileAgain(Checks checks) {
        PieceSwarm x = Swarms.swarm(2, 2, 5);
        checks.due("again", x.file(2, 2, 5), true);
        dueFile(checks, x, 2, 2);
    }

    static void promise2BehindTicksWithoutPeers(Checks checks) {
        PieceSwarm x = new PieceSwarm();
        x.tick(50);
        checks.due("behind ticks", x.file(4, 3, 2), true);
        dueFile(checks, x, 4, 3);
        checks.due("the tick stays", x.count(0), 50);
    }

    static void promise2ARefusedPeerIsNone(Checks checks) {
        PieceSwarm x = new PieceSwarm();
        checks.due("refused", x.peer(PLAIN, 0, 1), NONE);
        checks.due("so there are no PEERS", x.file(2, 1, 0), true);
    }

    @Holds("or there are PEERS.")
    static void promise2NotWithOnePeer(Checks checks) {
        PieceSwarm x = Swarms.swarm(2, 2, 5);
        x.peer(PLAIN, 1, 1);
        checks.due("another FILE", x.file(3, 3, 6), false);
        checks.due("the same FILE", x.file(2, 2, 5), false);
        dueFile(checks, x, 2, 2);
    }

    static void promise2NotWithAPeerThatIsGone(Checks checks) {
        PieceSwarm x = Swarms.swarm(2, 2, 5);
        x.peer(PLAIN, 1, 1);
        x.leave(0);
        checks.due("none HERE", x.count(2), 0);
        checks.due("another FILE", x.file(3, 3, 6), false);
        dueFile(checks, x, 2, 2);
    }

    static void promise2NotWithTwelvePeers(Checks checks) {
        PieceSwarm x = new PieceSwarm();
        for (int i = 0; i < 12; i++) {
            x.peer(PLAIN, 1, 1);
        }
        checks.due("another FILE", x.file(3, 3, 6), false);
        dueFile(checks, x, 1, 1);
    }

    @Holds("The VALUE of a BLOCK of the FILE;")
    static void promise3FirstAndLastBlock(Checks checks) {
        PieceSwarm x = Swarms.swarm(24, 4, 0);
        int[] first = {12345, 1103559978, -2087859702, -984444634};
        for (int block = 0; block < 4; block++) {
            checks.due("value(0, " + block + ")", x.value(0, block), first[block]);
        }
        checks.due("value(23, 3)", x.value(23, 3), 1754766210);
    }

    /** Seed + 4 p + b goes over the greatest int from seed GREATEST on, and over 0 from seed -1 on. */
    @Holds("that of BLOCK b of PIECE p is made from a seed: x = seed + 4 p + b, x = x * 1103515245 + 12345, x ^ (x "
        + ">>> 15) (ints, they wrap).")
    static void promise3IntsWrap(Checks checks) {
        int[][] values = {
            {GREATEST, 1043963327, -2147405767, -1043858134, 59558410, -1496206946},
            {LEAST, -2147405767, -1043858134, 59558410, 1163104550, -392782974},
            {-1, -1103585857, 12345, 1103559978, -2087859702, 651211166},
            {-2, 2087939000, -1103585857, 12345, 1103559978, -452237369}};
        for (int[] row : values) {
            PieceSwarm x = Swarms.swarm(24, 4, row[0]);
            for (int block = 0; block < 4; block++) {
                checks.due("seed " + row[0] + ", block " + block, x.value(0, block), row[1 + block]);
            }
            checks.due("seed " + row[0] + ", the last one", x.value(23, 3), row[5]);
        }
    }

    /** By long numbers, cut to 32 bits: ints that don't wrap, or a shift that keeps the sign, would differ. */
    static void promise3EachValueByLongNumbers(Checks checks) {
        for (int seed : new int[] {LEAST, -96, -1, 0, 77, GREATEST - 95, GREATEST}) {
            PieceSwarm x = Swarms.swarm(24, 4, seed);
            for (int piece = 0; piece < 24; piece++) {
                for (int block = 0; block < 4; block++) {
                    checks.due("seed " + seed + ", value(" + piece + ", " + block + ")", x.value(piece, block),
                        valueByLongs(seed, piece, block));
                }
            }
        }
    }

    private static int valueByLongs(int seed, int piece, int block) {
        long low = (1L << 32) - 1;
        long x = seed + 4L * piece + block & low;
        x = x * 1103515245L + 12345L & low;
        return (int) (x ^ x >> 15);
    }

    @Holds("0 without one.")
    static void promise3ZeroWithoutABlock(Checks checks) {
        int[][] files = {{1, 1}, {1, 4}, {24, 1}, {24, 4}, {2, 2}};
        for (int[] file : files) {
            PieceSwarm x = Swarms.swarm(file[0], file[1], 3);
            for (int piece : new int[] {LEAST, -1, file[0], file[0] + 1, GREATEST}) {
                checks.due("PIECE " + piece + " of " + file[0], x.value(piece, 0), 0);
            }
            for (int block : new int[] {LEAST, -1, file[1], file[1] + 1, GREATEST}) {
                checks.due("BLOCK " + block + " of " + file[1], x.value(0, block), 0);
                checks.due("BLOCK " + block + " of the last PIECE", x.value(file[0] - 1, block), 0);
            }
        }
    }

    /** 4 p + b is the same for two of these: each has its own answer all the same. */
    static void promise3ABlockBehindTheLastIsNotOneOfTheNextPiece(Checks checks) {
        PieceSwarm x = Swarms.swarm(3, 2, 0);
        checks.due("value(1, 0)", x.value(1, 0) != 0, true);
        checks.due("value(0, 4)", x.value(0, 4), 0);
        checks.due("value(2, -4)", x.value(2, -4), 0);
    }

    @Holds("The SUM of a PIECE of the FILE;")
    static void promise4SumOfOneBlockIsItsValue(Checks checks) {
        PieceSwarm x = Swarms.swarm(24, 1, 77);
        for (int piece = 0; piece < 24; piece++) {
            checks.due("sum(" + piece + ")", x.sum(piece), x.value(piece, 0));
        }
        checks.due("by hand", x.sum(0), -928754103);
    }

    @Holds("SUM of K VALUES: s = 0, then for each in order s = s * 69069 + VALUE.")
    static void promise4SumOfFourBlocksWraps(Checks checks) {
        int[][] sums = {
            {0, 466665295, -736329960}, {1, 191728345, 1863168669}, {-1, 74347192, -137046718},
            {GREATEST, 1010332344, 666162498}, {LEAST, 939704143, -1209368808}, {77, 1444153884, -305953759}};
        for (int[] row : sums) {
            PieceSwarm x = Swarms.swarm(24, 4, row[0]);
            checks.due("seed " + row[0] + ", the first", x.sum(0), row[1]);
            checks.due("seed " + row[0] + ", the last", x.sum(23), row[2]);
        }
    }

    static void promise4SumOfTwoBlocks(Checks checks) {
        int[][] sums = {{0, -1436767624}, {GREATEST, -628584115}, {LEAST, -1668371848}};
        for (int[] row : sums) {
            checks.due("seed " + row[0], Swarms.swarm(2, 2, row[0]).sum(1), row[1]);
        }
    }

    @Holds("0 without one.")
    static void promise4ZeroWithoutAPiece(Checks checks) {
        for (int pieces : new int[] {1, 2, 23, 24}) {
            PieceSwarm x = Swarms.swarm(pieces, 4, 1);
            checks.due("the last of " + pieces, x.sum(pieces - 1) != 0, true);
            for (int piece : new int[] {LEAST, -1, pieces, pieces + 1, GREATEST}) {
                checks.due("PIECE " + piece + " of " + pieces, x.sum(piece), 0);
            }
        }
    }
}
