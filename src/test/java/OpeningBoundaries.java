/** Promise 10 at its edges: how many ticks, and who is open to whom in them. */
final class OpeningBoundaries implements Terms {
    private OpeningBoundaries() {
    }

    @Holds({
        "n TICKS (0 to 50):",
        "NONE for another n.",
        "2. A TICK (numbered from 1 on):"})
    static void promise10NoughtToFifty(Checks checks) {
        PieceSwarm x = new PieceSwarm();
        int ticks = 0;
        for (int n = 0; n <= 50; n++) {
            checks.due("tick(" + n + ")", x.tick(n), 0);
            ticks += n;
            checks.due("the tick", x.count(0), ticks);
        }
        for (int n : new int[] {LEAST, -51, -1, 51, 52, GREATEST}) {
            checks.due("tick(" + n + ")", x.tick(n), NONE);
            checks.due("the tick stays", x.count(0), ticks);
        }
    }

    static void promise10RefusedTicksSendNothing(Checks checks) {
        PieceSwarm x = Swarms.seedAndTaker(24, 4, 8, 8);
        checks.due("tick(51)", x.tick(51), NONE);
        checks.due("tick(-1)", x.tick(-1), NONE);
        checks.due("nothing was sent", x.count(6), 0);
        checks.due("the next tick is 1, so it OPENS", x.tick(1), 8);
    }

    static void promise10TickZeroChangesNothing(Checks checks) {
        Look look = new Look(3, 2, 3);
        Run begun = new Run().file(3, 2, 1).peer(SEED, 2, 1).peer(SLOW, 1, 2).peer(PLAIN, 1, 3).meet(0, 1).meet(0, 2)
            .meet(1, 2);
        look.dueAlike(checks, "before the first tick", begun.tick(0), begun);
        look.dueAlike(checks, "and the next one is the first", begun.tick(0).tick(1), begun.tick(1));
        Run midway = begun.tick(6);
        look.dueAlike(checks, "behind six", midway.tick(0), midway);
        look.dueAlike(checks, "and behind eight", midway.tick(0).tick(2), midway.tick(2));
    }

    static void promise10FiftyTicksAreFiftyTimesOne(Checks checks) {
        Run begun = new Run().file(12, 4, 1).peer(SEED, 1, 1).peer(SLOW, 2, 2).peer(PLAIN, 1, 3).peer(FALSE, 2, 2)
            .peer(SHY, 1, 1);
        for (int a = 0; a < 5; a++) {
            for (int b = a + 1; b < 5; b++) {
                begun = begun.meet(a, b);
            }
        }
        Run byOnes = begun;
        PieceSwarm x = begun.made();
        int sent = 0;
        for (int i = 0; i < 50; i++) {
            byOnes = byOnes.tick(1);
            sent += x.tick(1);
        }
        checks.due("what they sent together", begun.made().tick(50), sent);
        checks.due("more than the FILE", sent > 48, true);
        new Look(12, 4, 5).dueAlike(checks, "behind fifty", begun.tick(50), byOnes);
    }

    @Holds("how many BLOCKS were sent in them.")
    static void promise10CountsWhatWasSentInTheseTicksAlone(Checks checks) {
        PieceSwarm x = Swarms.seedAndTaker(24, 4, 1, 1);
        checks.due("ten ticks", x.tick(10), 10);
        checks.due("five more", x.tick(5), 5);
        checks.due("none", x.tick(0), 0);
        checks.due("in all", x.count(6), 15);
    }

    static void promise10CountsWhatIsStillComing(Checks checks) {
        PieceSwarm x = Swarms.oneThatGotAll(1, 1, SLOW, 1);
        x.peer(PLAIN, 1, 1);
        x.meet(1, 2);
        checks.due("it was sent in tick 5", x.tick(1), 1);
        checks.due("it is COMING", x.count(7), 1);
        checks.due("it comes in tick 7, where none is sent", x.tick(2), 0);
        checks.due("it came", x.about(2, 4), 1);
    }

    static void promise10NoPeersOnePeerNoneHere(Checks checks) {
        PieceSwarm x = Swarms.swarm(24, 4);
        checks.due("no PEERS", x.tick(50), 0);
        x.peer(SEED, 8, 8);
        checks.due("one alone", x.tick(50), 0);
        x.peer(PLAIN, 8, 8);
        checks.due("two that never met", x.tick(50), 0);
        x.meet(0, 1);
        x.leave(0);
        checks.due("one HERE", x.tick(50), 0);
        x.leave(1);
        checks.due("none HERE", x.tick(50), 0);
        checks.due("the tick", x.count(0), 250);
    }

    /** Who met behind tick t is open from the first of the ticks 1, 5, 9 and so on that comes then. */
    @Holds("b. In ticks 1, 5, 9 and so on")
    static void promise10OpensInTicksOneFiveNine(Checks checks) {
        for (int before = 0; before <= 12; before++) {
            PieceSwarm x = Swarms.swarm(24, 4);
            x.peer(SEED, 1, 1);
            x.peer(PLAIN, 1, 1);
            x.tick(before);
            x.meet(0, 1);
            for (int tick = before + 1; tick <= before + 5; tick++) {
                int opened = (before + 3) / 4 * 4 + 1;
                checks.due("met behind " + before + ", sent in " + tick, x.tick(1), tick >= opened ? 1 : 0);
                checks.due("met behind " + before + ", open in " + tick, x.pair(0, 1, 3), tick >= opened ? 1 : 0);
            }
        }
    }

    @Holds({
        "else of those who WANT of it the three",
        "and BY TURNS one of the other ones who WANT:"})
    static void promise10OpensToNoneThreeAndOneMore(Checks checks) {
        for (int wanting = 0; wanting <= 11; wanting++) {
            PieceSwarm x = Swarms.swarm(24, 4);
            x.peer(SEED, 8, 1);
            Swarms.add(x, wanting, PLAIN, 1, 1);
            Swarms.meetAll(x, 0, 1, wanting);
            x.tick(1);
            checks.due("open to how many of " + wanting, x.about(0, 12), Math.min(wanting, 4));
            for (int i = 1; i <= wanting; i++) {
                checks.due("open to " + i + " of " + wanting, x.pair(0, i, 3), i <= 4 ? 1 : 0);
                checks.due("by turns to " + i + " of " + wanting, x.pair(0, i, 8), i == 4 ? 1 : 0);
            }
        }
    }

    /** Though it opens to none, a FREE one OPENS, and so its LATE numbers begin anew. */
    static void promise10LateNumbersOfAFreeOneBeginAnew(Checks checks) {
        for (int kind : new int[] {FREE, SHY}) {
            PieceSwarm x = Swarms.swarm(24, 4);
            x.peer(SEED, 2, 1);
            x.peer(kind, 1, 2);
            x.meet(0, 1);
            x.tick(4);
            checks.due("kind " + kind + ", tick 4", x.pair(1, 0, 4), 8);
            x.tick(1);
            checks.due("kind " + kind + ", tick 5", x.pair(1, 0, 4), 2);
        }
    }

    @Holds({
        "2 FREE: it opens to nobody;",
        "5 SHY: as FREE,",
        "none, if it is FREE or SHY;"})
    static void promise10FreeAndShyOnesOpenToNone(Checks checks) {
        for (int kind : new int[] {PLAIN, FREE, FALSE, SLOW, SHY}) {
            PieceSwarm x = Swarms.oneThatGotAll(2, 1, kind, 8);
            x.peer(PLAIN, 1, 1);
            x.meet(1, 2);
            checks.due("kind " + kind + " is wanted", x.pair(1, 2, 2), 1);
            boolean opens = kind != FREE && kind != SHY;
            checks.due("kind " + kind + " sends", x.tick(1), opens ? 1 : 0);
            checks.due("kind " + kind + " is open", x.about(1, 12), opens ? 1 : 0);
        }
    }

    /** All got one BLOCK, so all LATE numbers are like: the three least numbers, then the next by turns. */
    @Holds("of like ones the least numbers;")
    static void promise10OfLikeLateNumbersTheLeastPeers(Checks checks) {
        PieceSwarm x = Swarms.swarm(24, 4);
        x.peer(SEED, 4, 1);
        Swarms.add(x, 6, PLAIN, 1, 1);
        Swarms.meetAll(x, 0, 1, 6);
        x.tick(4);
        for (int i = 1; i <= 4; i++) {
            checks.due("LATE number of " + i, x.pair(0, i, 4), 4);
        }
        x.tick(1);
        int[] open = {0, 1, 1, 1, 0, 1, 0};
        for (int i = 1; i <= 6; i++) {
            checks.due("open to " + i, x.pair(0, i, 3), open[i]);
        }
    }

    /**
     * SEED 6 gives to 1, 2 and 3 in tick 1, so that SEED 0, of up rate 1, gives to 4; then 6 goes, and 0 gives to 1. In
     * tick 5 the LATE numbers of 1 to 5 are 3, 0, 0, 1, 0: the one BLOCK brings 4 before 3, and 5 has the turn.
     */
    @Holds("with the greatest LATE number,")
    static void promise10OneBlockMoreIsEnough(Checks checks) {
        PieceSwarm x = Swarms.swarm(24, 4);
        x.peer(SEED, 1, 1);
        Swarms.add(x, 5, PLAIN, 1, 1);
        x.peer(SEED, 8, 1);
        Swarms.meetAll(x, 0, 1, 5);
        Swarms.meetAll(x, 6, 1, 3);
        checks.due("tick 1", x.tick(1), 4);
        x.leave(6);
        checks.due("ticks 2 to 4", x.tick(3), 3);
        int[] late = {0, 3, 0, 0, 1, 0};
        for (int i = 1; i <= 5; i++) {
            checks.due("LATE number of " + i, x.pair(0, i, 4), late[i]);
        }
        x.tick(1);
        int[] open = {0, 1, 1, 0, 1, 1};
        for (int i = 1; i <= 5; i++) {
            checks.due("open to " + i, x.pair(0, i, 3), open[i]);
            checks.due("by turns to " + i, x.pair(0, i, 8), i == 5 ? 1 : 0);
        }
    }

    /**
     * 0 got PIECES 2 to 9 of SEED 6; FREE 1 and 2, 3, 4 have the PIECES 0 and 1. In tick 9, where all LATE numbers are
     * like, 0 is open to 1, 2 and 3, and by turns to 4. It then gets a BLOCK of 2, of 3 and, at the END, a SPARE one of
     * 4, and gives to 1 alone. So in tick 13 those three are the ones who gave of late, and 1, who only takes, has the
     * turn.
     */
    @Holds({
        "each gives to those who gave of late and to one by turns,",
        "those who only take get what turns leave them,",
        "LATE number of b at a: of an a that isn't DONE how many BLOCKS came to it from b,"})
    static void promise10OneThatIsNotDoneOpensToThoseWhoGaveOfLate(Checks checks) {
        PieceSwarm x = Swarms.swarm(24, 1);
        x.peer(PLAIN, 1, 3);
        x.peer(FREE, 1, 2);
        Swarms.add(x, 3, PLAIN, 2, 2);
        x.peer(SEED, 8, 1);
        x.peer(SEED, 2, 1);
        Swarms.meetAll(x, 5, 1, 4);
        checks.due("tick 1: two to each of 1 to 4", x.tick(1), 8);
        x.leave(5);
        x.tick(3);
        x.meet(0, 6);
        x.meet(0, 1);
        checks.due("ticks 5 to 8: to 0", x.tick(4), 8);
        checks.due("not PIECE 1, of which 1 TELLS", x.held(0, 1), 0);
        x.leave(6);
        Swarms.meetAll(x, 0, 2, 4);
        checks.due("tick 9: three to 0, one to 1", x.tick(1), 4);
        checks.due("by turns to 4", x.pair(0, 4, 8), 1);
        checks.due("SPARE", x.about(0, 6), 1);
        checks.due("ticks 10 to 12: to 1", x.tick(3), 3);
        checks.due("0 is not DONE", x.about(0, 9), NONE);
        checks.due("it sent four to 1", x.pair(0, 1, 5), 4);
        for (int i = 1; i <= 4; i++) {
            checks.due("LATE number of " + i, x.pair(0, i, 4), i == 1 ? 0 : 1);
            checks.due(i + " WANTS of 0", x.pair(0, i, 2), 1);
        }
        x.tick(1);
        for (int i = 1; i <= 4; i++) {
            checks.due("tick 13: open to " + i, x.pair(0, i, 3), 1);
            checks.due("tick 13: by turns to " + i, x.pair(0, i, 8), i == 1 ? 1 : 0);
        }
    }

    /** SEED 5 of up rate 1 gives to 0 alone; so 0, 1 and 2 are always the three, and the turn goes round the others. */
    @Holds({
        "the first with a greater number than the one who was so the latest time",
        "if there is none such the first of them."})
    static void promise10TurnsGoRound(Checks checks) {
        PieceSwarm x = Swarms.swarm(24, 4);
        Swarms.add(x, 5, PLAIN, 1, 1);
        x.peer(SEED, 1, 1);
        Swarms.add(x, 6, PLAIN, 1, 1);
        Swarms.meetAll(x, 5, 0, 4);
        Swarms.meetAll(x, 5, 6, 11);
        for (int turn : new int[] {3, 4, 6, 7, 8, 9, 10, 11, 3, 4}) {
            x.tick(1);
            for (int i = 0; i < 12; i++) {
                if (i != 5) {
                    checks.due("turn of " + turn + ": by turns to " + i, x.pair(5, i, 8), i == turn ? 1 : 0);
                    checks.due("turn of " + turn + ": open to " + i, x.pair(5, i, 3), i <= 2 || i == turn ? 1 : 0);
                }
            }
            x.tick(3);
        }
    }

    static void promise10TurnsOfOneOtherAlone(Checks checks) {
        PieceSwarm x = Swarms.swarm(24, 4);
        x.peer(SEED, 1, 1);
        Swarms.add(x, 4, PLAIN, 1, 1);
        Swarms.meetAll(x, 0, 1, 4);
        for (int opening = 1; opening <= 3; opening++) {
            x.tick(1);
            checks.due("opening " + opening + ": none is greater, so the same one again", x.pair(0, 4, 8), 1);
            x.tick(3);
        }
    }

    /** Before tick 5 SEED 5 gave to 1, 2 and 3; nobody had a turn yet, so that it is the least one's, 0. */
    @Holds("(at first none was: 0 and on),")
    static void promise10TheFirstTurnIsFromZeroOn(Checks checks) {
        PieceSwarm x = Swarms.swarm(24, 4);
        Swarms.add(x, 5, PLAIN, 1, 1);
        x.peer(SEED, 8, 1);
        Swarms.meetAll(x, 5, 1, 3);
        x.tick(4);
        x.meet(5, 0);
        x.meet(5, 4);
        x.tick(1);
        checks.due("by turns to 0", x.pair(5, 0, 8), 1);
        checks.due("not open to 4", x.pair(5, 4, 3), 0);
    }

    /** The turn was that of 5; it goes, and nobody has one in tick 9. In tick 13 the turn goes on behind 5. */
    static void promise10TurnsGoOnBehindTheLatestOneThatHadOne(Checks checks) {
        PieceSwarm x = Swarms.swarm(24, 4);
        x.peer(SEED, 1, 1);
        Swarms.add(x, 6, PLAIN, 1, 1);
        Swarms.meetAll(x, 0, 1, 6);
        x.tick(5);
        checks.due("tick 5: 5", x.pair(0, 5, 8), 1);
        for (int i = 4; i <= 6; i++) {
            x.leave(i);
        }
        x.tick(4);
        checks.due("tick 9: three want", x.about(0, 12), 3);
        for (int i = 1; i <= 6; i++) {
            checks.due("tick 9: no turn of " + i, x.pair(0, i, 8), 0);
        }
        x.join(4);
        x.join(6);
        x.tick(4);
        checks.due("tick 13: 6", x.pair(0, 6, 8), 1);
        x.leave(6);
        x.join(5);
        x.tick(4);
        checks.due("tick 17: none is greater than 6, the first of the others", x.pair(0, 4, 8), 1);
    }

    /** What came in the tick before, and not in the one that OPENS, counts when 1 OPENS. */
    @Holds("since a OPENED the latest time.")
    static void promise10LateNumbersBeginAnewWithEachOpening(Checks checks) {
        PieceSwarm x = Swarms.seedAndTaker(24, 4, 2, 2);
        for (int tick = 1; tick <= 9; tick++) {
            x.tick(1);
            int since = (tick - 1) % 4 + 1;
            checks.due("tick " + tick + ": sent", x.pair(0, 1, 4), 2 * since);
            checks.due("tick " + tick + ": came", x.pair(1, 0, 4), 2 * since);
        }
    }

    /** A gone one does not OPEN, so that its LATE numbers go on till it does. */
    @Holds({
        "each PEER that is HERE, by numbers, OPENS anew:",
        "since a OPENED the latest time."})
    static void promise10AGoneOneDoesNotOpen(Checks checks) {
        PieceSwarm x = Swarms.seedAndTaker(24, 4, 2, 2);
        x.tick(4);
        x.leave(0);
        x.tick(4);
        checks.due("tick 8: since tick 1", x.pair(0, 1, 4), 8);
        checks.due("the other OPENED in tick 5", x.pair(1, 0, 4), 0);
        x.join(0);
        x.tick(1);
        checks.due("tick 9", x.pair(0, 1, 4), 2);
    }

    /** 1 gets its last BLOCK in tick 2; from then on its LATE numbers are of what it sent. */
    @Holds("else how many it sent to b,")
    static void promise10LateNumbersOfOneThatIsDone(Checks checks) {
        PieceSwarm x = Swarms.seedAndTaker(2, 1, 1, 1);
        x.tick(1);
        checks.due("one short of DONE: what came", x.pair(1, 0, 4), 1);
        x.tick(1);
        checks.due("DONE", x.about(1, 9), 2);
        checks.due("what it sent", x.pair(1, 0, 4), 0);
    }

    static void promise10OneWhoHasNothingOpensToNone(Checks checks) {
        PieceSwarm x = Swarms.swarm(1, 2);
        x.peer(SEED, 1, 1);
        Swarms.add(x, 2, PLAIN, 1, 1);
        x.meet(0, 1);
        x.meet(1, 2);
        x.tick(1);
        checks.due("1 HOLDS a BLOCK", x.held(1, 0), 1);
        checks.due("2 does not WANT of it", x.pair(1, 2, 2), 0);
        checks.due("1 is open to none", x.about(1, 12), 0);
        x.tick(1);
        checks.due("1 HAS the PIECE", x.about(1, 2), 1);
        checks.due("2 WANTS of it", x.pair(1, 2, 2), 1);
        checks.due("1 is not open before tick 5", x.tick(2), 0);
        checks.due("1 is open in tick 5", x.tick(1), 1);
    }

    static void promise10OneWhoHasAllWantsNothing(Checks checks) {
        PieceSwarm x = Swarms.swarm(24, 4);
        Swarms.add(x, 2, SEED, 8, 8);
        x.meet(0, 1);
        checks.due("nobody WANTS", x.pair(0, 1, 2) + x.pair(1, 0, 2), 0);
        checks.due("nothing is sent", x.tick(50), 0);
        checks.due("nobody is open", x.about(0, 12) + x.about(1, 12), 0);
    }
}
