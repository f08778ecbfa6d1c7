/**
 * A file cut in pieces that strangers hand about, tick by tick.
 *
 * <p>Sets of PEERS and of PIECES are kept as bits of an int (bit i for number i): there are at most 12 and 24 of them,
 * and so no call after the constructor makes an object.
 */
public final class PieceSwarm {

    public static final int NONE = -1;

    private static final int MOST_PIECES = 24;
    private static final int MOST_BLOCKS = 4;
    private static final int MOST_PEERS = 12;
    private static final int MOST_RATE = 8;
    private static final int MOST_OFTEN = 100;
    private static final int MOST_TICKS = 50;

    private static final int PLAIN = 0;
    private static final int SEED = 1;
    private static final int FREE = 2;
    private static final int FALSE = 3;
    private static final int SLOW = 4;
    private static final int SHY = 5;

    private static final int FIRST_OFTEN = 2;
    private static final int SLOW_TICKS = 2;
    private static final int TICKS_PER_OPENING = 4;
    private static final int OPEN_BY_LATE = 3;
    private static final int EVEN_PIECES = 0x555555;

    private final Crowd crowd;
    private final Arrival arrival;
    private final Opening opening;
    private final Asking asking;

    public PieceSwarm() {
        crowd = new Crowd();
        arrival = new Arrival(crowd);
        opening = new Opening(crowd);
        asking = new Asking(crowd);
    }

    public boolean file(int pieces, int blocks, int seed) {
        if (crowd.size > 0 || !isWithin(pieces, 1, MOST_PIECES) || !isWithin(blocks, 1, MOST_BLOCKS)) {
            return false;
        }
        crowd.whole.become(pieces, blocks, seed);
        return true;
    }

    public int value(int piece, int block) {
        return crowd.whole.isBlock(piece, block) ? crowd.whole.valueOf(piece, block) : 0;
    }

    public int sum(int piece) {
        return crowd.whole.isPiece(piece) ? crowd.whole.sumOf(piece) : 0;
    }

    public int peer(int kind, int up, int down) {
        boolean asTold = isWithin(kind, PLAIN, SHY) && isWithin(up, 1, MOST_RATE) && isWithin(down, 1, MOST_RATE);
        if (!asTold || crowd.size >= MOST_PEERS) {
            return NONE;
        }
        return crowd.takeIn(kind, up, down);
    }

    public boolean often(int p, int f) {
        if (!crowd.isMember(p) || !isWithin(f, 1, MOST_OFTEN) || crowd.members[p].kind != FALSE) {
            return false;
        }
        crowd.members[p].everyNth = f;
        return true;
    }

    public boolean meet(int a, int b) {
        if (!crowd.areTwo(a, b) || isIn(crowd.members[a].ties.neighbours, b)) {
            return false;
        }
        crowd.members[a].ties.neighbours |= 1 << b;
        crowd.members[b].ties.neighbours |= 1 << a;
        return true;
    }

    public boolean leave(int p) {
        if (!crowd.isMember(p) || !isIn(crowd.here, p)) {
            return false;
        }
        crowd.letGo(p);
        return true;
    }

    public boolean join(int p) {
        if (!crowd.isMember(p) || isIn(crowd.here, p)) {
            return false;
        }
        crowd.here |= 1 << p;
        return true;
    }

    public int tick(int n) {
        if (!isWithin(n, 0, MOST_TICKS)) {
            return NONE;
        }
        int before = crowd.sentInAll;
        for (int i = 0; i < n; i++) {
            crowd.tickNumber++;
            arrival.takeDue();
            if (crowd.tickNumber % TICKS_PER_OPENING == 1) {
                opening.openAll();
            }
            asking.dropStranded();
            asking.runRounds();
            arrival.takeDue();
        }
        return crowd.sentInAll - before;
    }

    public int about(int p, int what) {
        if (!crowd.isMember(p)) {
            return NONE;
        }
        Member member = crowd.members[p];
        switch (what) {
            case 0: return member.kind;
            case 1: return oneIf(isIn(crowd.here, p));
            case 2: return Integer.bitCount(member.store.has);
            case 3: return member.store.heldInAll();
            case 4: return member.came;
            case 5: return member.sent;
            case 6: return member.spare;
            case 7: return member.failed;
            case 8: return Integer.bitCount(member.store.marked);
            case 9: return member.doneTick;
            case 10: return member.store.comingInAll;
            case 11: return Integer.bitCount(member.ties.banned);
            case 12: return Integer.bitCount(member.ties.open);
            case 13: return Integer.bitCount(member.ties.neighbours);
            default: return NONE;
        }
    }

    public int held(int p, int piece) {
        if (!crowd.isMember(p) || !crowd.whole.isPiece(piece)) {
            return NONE;
        }
        Store store = crowd.members[p].store;
        return isIn(store.has, piece) ? crowd.whole.blocks : store.heldOf(piece);
    }

    public int from(int p, int piece, int block) {
        if (!crowd.isMember(p) || !crowd.whole.isBlock(piece, block)) {
            return NONE;
        }
        return crowd.members[p].store.givers[place(piece, block)];
    }

    public int got(int p, int piece, int block) {
        if (!crowd.isMember(p) || !crowd.whole.isBlock(piece, block)) {
            return 0;
        }
        Store store = crowd.members[p].store;
        boolean keeps = isIn(store.has, piece) || store.holds(piece, block);
        return keeps ? store.values[place(piece, block)] : 0;
    }

    public int rare(int p, int piece) {
        if (!crowd.isMember(p) || !crowd.whole.isPiece(piece)) {
            return NONE;
        }
        return Integer.bitCount(crowd.tellersAmong(crowd.nearTo(p), piece));
    }

    public int pair(int a, int b, int what) {
        if (!crowd.areTwo(a, b)) {
            return NONE;
        }
        Ties ties = crowd.members[a].ties;
        switch (what) {
            case 0: return oneIf(isIn(ties.neighbours, b));
            case 1: return oneIf(isIn(crowd.nearTo(a), b));
            case 2: return oneIf(isIn(crowd.wantersOf(a), b));
            case 3: return oneIf(isIn(ties.open, b));
            case 4: return crowd.members[a].lateNumberOf(b);
            case 5: return ties.sent[b];
            case 6: return ties.doubts[b];
            case 7: return oneIf(isIn(ties.banned, b));
            case 8: return oneIf(ties.openedByTurns == b && isIn(ties.open, b));
            default: return NONE;
        }
    }

    public int alone(int p) {
        if (p == NONE) {
            return Integer.bitCount(crowd.whole.allPieces() & ~crowd.hadByOthersThan(NONE));
        }
        if (!crowd.isMember(p)) {
            return NONE;
        }
        return Integer.bitCount(crowd.members[p].store.has & ~crowd.hadByOthersThan(p));
    }

    public int bound(int s) {
        if (!crowd.isMember(s) || !isIn(crowd.here, s) || !crowd.members[s].isDone()) {
            return NONE;
        }
        int blocks = crowd.whole.pieces * crowd.whole.blocks;
        int others = 0;
        int upTogether = crowd.members[s].up;
        int greatest = cutUp(blocks, crowd.members[s].up);
        for (int i = 0; i < crowd.size; i++) {
            if (i == s || !isIn(crowd.here, i)) {
                continue;
            }
            Member other = crowd.members[i];
            if (!other.store.isBare()) {
                return NONE;
            }
            others++;
            upTogether += other.up;
            greatest = Math.max(greatest, cutUp(blocks, other.down));
        }
        return others == 0 ? NONE : Math.max(greatest, cutUp(blocks * others, upTogether));
    }

    public int count(int what) {
        switch (what) {
            case 0: return crowd.tickNumber;
            case 1: return crowd.size;
            case 2: return Integer.bitCount(crowd.here);
            case 3: return crowd.doneAndHere();
            case 4: return crowd.whole.pieces;
            case 5: return crowd.whole.blocks;
            case 6: return crowd.sentInAll;
            case 7: return crowd.road.length;
            case 8: return crowd.lostInAll;
            case 9: return crowd.failedInAll();
            case 10: return crowd.spareInAll();
            default: return NONE;
        }
    }

    private static boolean isWithin(int number, int least, int most) {
        return number >= least && number <= most;
    }

    private static boolean isIn(int set, int number) {
        return (set >>> number & 1) == 1;
    }

    private static int oneIf(boolean truth) {
        return truth ? 1 : 0;
    }

    private static int place(int piece, int block) {
        return piece * MOST_BLOCKS + block;
    }

    private static int sumWith(int sumSoFar, int nextValue) {
        return sumSoFar * 69069 + nextValue;
    }

    private static int cutUp(int amount, int rate) {
        return rate <= 0 ? 0 : (amount + rate - 1) / rate;
    }

    /** THE FILE as it truly is. */
    private static final class Whole {
        int pieces;
        int blocks;
        int seed;

        Whole() {
            pieces = 1;
            blocks = 1;
            seed = 0;
        }

        void become(int newPieces, int newBlocks, int newSeed) {
            pieces = newPieces;
            blocks = newBlocks;
            seed = newSeed;
        }

        boolean isPiece(int piece) {
            return piece >= 0 && piece < pieces;
        }

        boolean isBlock(int piece, int block) {
            return isPiece(piece) && block >= 0 && block < blocks;
        }

        int allPieces() {
            return (1 << pieces) - 1;
        }

        int valueOf(int piece, int block) {
            int x = seed + 4 * piece + block;
            x = x * 1103515245 + 12345;
            return x ^ (x >>> 15);
        }

        int sumOf(int piece) {
            int s = 0;
            for (int block = 0; block < blocks; block++) {
                s = sumWith(s, valueOf(piece, block));
            }
            return s;
        }
    }

    /** What one PEER HAS, HOLDS, has MARKED, and what is COMING to it. Rows go by place(piece, block). */
    private static final class Store {
        final int[] givers;
        final int[] values;
        final int[] coming;
        int has;
        int marked;
        int comingInAll;

        Store() {
            givers = new int[MOST_PIECES * MOST_BLOCKS];
            values = new int[MOST_PIECES * MOST_BLOCKS];
            coming = new int[MOST_PIECES * MOST_BLOCKS];
            for (int i = 0; i < givers.length; i++) {
                givers[i] = NONE;
            }
        }

        void fillFrom(Whole whole) {
            for (int piece = 0; piece < whole.pieces; piece++) {
                for (int block = 0; block < whole.blocks; block++) {
                    values[place(piece, block)] = whole.valueOf(piece, block);
                }
            }
            has = whole.allPieces();
        }

        boolean holds(int piece, int block) {
            return !isIn(has, piece) && givers[place(piece, block)] != NONE;
        }

        int heldOf(int piece) {
            int held = 0;
            for (int block = 0; block < MOST_BLOCKS; block++) {
                held += oneIf(holds(piece, block));
            }
            return held;
        }

        int heldInAll() {
            int held = 0;
            for (int piece = 0; piece < MOST_PIECES; piece++) {
                held += heldOf(piece);
            }
            return held;
        }

        boolean isBare() {
            return has == 0 && comingInAll == 0 && heldInAll() == 0;
        }

        /** Who gave the first BLOCK that is HELD of a PIECE that it hasn't; NONE if none is. */
        int firstGiver(int piece) {
            for (int block = 0; block < MOST_BLOCKS; block++) {
                int giver = givers[place(piece, block)];
                if (giver != NONE) {
                    return giver;
                }
            }
            return NONE;
        }

        /** All who gave a BLOCK that is HELD of a PIECE that it hasn't. */
        int giversOf(int piece) {
            int set = 0;
            for (int block = 0; block < MOST_BLOCKS; block++) {
                int giver = givers[place(piece, block)];
                if (giver != NONE) {
                    set |= 1 << giver;
                }
            }
            return set;
        }

        boolean isBegun(int piece) {
            for (int block = 0; block < MOST_BLOCKS; block++) {
                if (holds(piece, block) || coming[place(piece, block)] > 0) {
                    return true;
                }
            }
            return false;
        }

        /** The first of so many BLOCKS that is neither HELD nor COMING; NONE if there is none. */
        int firstUnasked(int piece, int blocks) {
            for (int block = 0; block < blocks; block++) {
                if (!holds(piece, block) && coming[place(piece, block)] == 0) {
                    return block;
                }
            }
            return NONE;
        }

        void expect(int piece, int block) {
            coming[place(piece, block)]++;
            comingInAll++;
        }

        void expectNoMore(int piece, int block) {
            coming[place(piece, block)]--;
            comingInAll--;
        }

        void put(int piece, int block, int giver, int value) {
            givers[place(piece, block)] = giver;
            values[place(piece, block)] = value;
        }

        void drop(int piece) {
            for (int block = 0; block < MOST_BLOCKS; block++) {
                givers[place(piece, block)] = NONE;
            }
        }

        int sumOf(int piece, int blocks) {
            int s = 0;
            for (int block = 0; block < blocks; block++) {
                s = sumWith(s, values[place(piece, block)]);
            }
            return s;
        }
    }

    /** How one PEER stands to the others. Rows go by the other one's number. */
    private static final class Ties {
        final int[] cameLate;
        final int[] sentLate;
        final int[] sent;
        final int[] doubts;
        int neighbours;
        int banned;
        int bannedBy;
        int open;
        int latestByTurns;
        int openedByTurns;

        Ties() {
            cameLate = new int[MOST_PEERS];
            sentLate = new int[MOST_PEERS];
            sent = new int[MOST_PEERS];
            doubts = new int[MOST_PEERS];
            latestByTurns = NONE;
            openedByTurns = NONE;
        }

        void forgetLate() {
            for (int i = 0; i < MOST_PEERS; i++) {
                cameLate[i] = 0;
                sentLate[i] = 0;
            }
        }
    }

    /** One PEER. */
    private static final class Member {
        final Store store;
        final Ties ties;
        int kind;
        int up;
        int down;
        int everyNth;
        int doneTick;
        int came;
        int sent;
        int spare;
        int failed;
        int maySend;
        int mayAsk;

        Member() {
            store = new Store();
            ties = new Ties();
            everyNth = FIRST_OFTEN;
            doneTick = NONE;
        }

        boolean isDone() {
            return doneTick != NONE;
        }

        boolean opensToNobody() {
            return kind == FREE || kind == SHY;
        }

        int toldPieces() {
            return kind == SHY ? store.has & EVEN_PIECES : store.has;
        }

        int lateNumberOf(int other) {
            return isDone() ? ties.sentLate[other] : ties.cameLate[other];
        }

        /** Counted over all that it sends, so a new f goes on with the old count. */
        boolean nowSendsFalse() {
            return kind == FALSE && everyNth > 0 && sent % everyNth == 0;
        }
    }

    /** The BLOCKS that are COMING, in the order in which they were sent. */
    private static final class Road {
        // Only what was sent in this tick and, by SLOW ones, in the one before can be COMING at once.
        static final int ROOM = SLOW_TICKS * MOST_PEERS * MOST_RATE;

        final int[] givers;
        final int[] takers;
        final int[] pieces;
        final int[] blocks;
        final int[] values;
        final int[] dueTicks;
        int length;

        Road() {
            givers = new int[ROOM];
            takers = new int[ROOM];
            pieces = new int[ROOM];
            blocks = new int[ROOM];
            values = new int[ROOM];
            dueTicks = new int[ROOM];
        }

        boolean hasRoom() {
            return length < ROOM;
        }

        void add(int giver, int taker, int piece, int block, int value, int dueTick) {
            if (!hasRoom()) {
                return;
            }
            givers[length] = giver;
            takers[length] = taker;
            pieces[length] = piece;
            blocks[length] = block;
            values[length] = value;
            dueTicks[length] = dueTick;
            length++;
        }

        void move(int old, int next) {
            givers[next] = givers[old];
            takers[next] = takers[old];
            pieces[next] = pieces[old];
            blocks[next] = blocks[old];
            values[next] = values[old];
            dueTicks[next] = dueTicks[old];
        }

        /** Who sent the first BLOCK of a PIECE that is COMING to a PEER; NONE if none is. */
        int firstGiver(int taker, int piece) {
            for (int i = 0; i < length; i++) {
                if (takers[i] == taker && pieces[i] == piece) {
                    return givers[i];
                }
            }
            return NONE;
        }

        int firstGiverOf(int taker, int piece, int block) {
            for (int i = 0; i < length; i++) {
                if (takers[i] == taker && pieces[i] == piece && blocks[i] == block) {
                    return givers[i];
                }
            }
            return NONE;
        }
    }

    /** The FILE, all PEERS, who is HERE, and what is COMING. */
    private static final class Crowd {
        final Whole whole;
        final Member[] members;
        final Road road;
        int size;
        int here;
        int tickNumber;
        int sentInAll;
        int lostInAll;

        Crowd() {
            whole = new Whole();
            road = new Road();
            members = new Member[MOST_PEERS];
            for (int i = 0; i < MOST_PEERS; i++) {
                members[i] = new Member();
            }
        }

        boolean isMember(int p) {
            return p >= 0 && p < size;
        }

        boolean areTwo(int a, int b) {
            return isMember(a) && isMember(b) && a != b;
        }

        int takeIn(int kind, int up, int down) {
            int number = size;
            Member member = members[number];
            member.kind = kind;
            member.up = up;
            member.down = down;
            if (kind == SEED) {
                member.store.fillFrom(whole);
                member.doneTick = 0;
            }
            here |= 1 << number;
            size++;
            return number;
        }

        int nearTo(int p) {
            Ties ties = members[p].ties;
            return isIn(here, p) ? here & ties.neighbours & ~ties.banned & ~ties.bannedBy : 0;
        }

        int tellersAmong(int set, int piece) {
            int tellers = 0;
            for (int i = 0; i < size; i++) {
                if (isIn(set, i) && isIn(members[i].toldPieces(), piece)) {
                    tellers |= 1 << i;
                }
            }
            return tellers;
        }

        int wantersOf(int a) {
            int told = members[a].toldPieces();
            int near = nearTo(a);
            int wanters = 0;
            for (int i = 0; i < size; i++) {
                if (isIn(near, i) && (told & ~members[i].store.has) != 0) {
                    wanters |= 1 << i;
                }
            }
            return wanters;
        }

        int hadByOthersThan(int p) {
            int had = 0;
            for (int i = 0; i < size; i++) {
                if (i != p && isIn(here, i)) {
                    had |= members[i].store.has;
                }
            }
            return had;
        }

        void letGo(int p) {
            here &= ~(1 << p);
            members[p].ties.open = 0;
            for (int i = 0; i < size; i++) {
                members[i].ties.open &= ~(1 << p);
            }
            loseParcelsOf(p);
        }

        private void loseParcelsOf(int p) {
            int kept = 0;
            for (int i = 0; i < road.length; i++) {
                if (road.takers[i] == p || road.givers[i] == p) {
                    members[road.takers[i]].store.expectNoMore(road.pieces[i], road.blocks[i]);
                    lostInAll++;
                } else {
                    road.move(i, kept);
                    kept++;
                }
            }
            road.length = kept;
        }

        int doneAndHere() {
            int done = 0;
            for (int i = 0; i < size; i++) {
                done += oneIf(isIn(here, i) && members[i].isDone());
            }
            return done;
        }

        int failedInAll() {
            int failed = 0;
            for (int i = 0; i < size; i++) {
                failed += members[i].failed;
            }
            return failed;
        }

        int spareInAll() {
            int spare = 0;
            for (int i = 0; i < size; i++) {
                spare += members[i].spare;
            }
            return spare;
        }
    }

    /** Steps a and d of a TICK: what is due comes. */
    private static final class Arrival {
        private final Crowd crowd;

        Arrival(Crowd crowd) {
            this.crowd = crowd;
        }

        /** Serves both steps: in step a only what SLOW ones sent is on the road, in step d only the rest is due. */
        void takeDue() {
            Road road = crowd.road;
            int kept = 0;
            for (int i = 0; i < road.length; i++) {
                if (road.dueTicks[i] <= crowd.tickNumber) {
                    take(road.takers[i], road.givers[i], road.pieces[i], road.blocks[i], road.values[i]);
                } else {
                    road.move(i, kept);
                    kept++;
                }
            }
            road.length = kept;
        }

        private void take(int taker, int giver, int piece, int block, int value) {
            Member member = crowd.members[taker];
            Store store = member.store;
            store.expectNoMore(piece, block);
            member.came++;
            member.ties.cameLate[giver]++;
            if (isSpare(store, giver, piece, block)) {
                member.spare++;
                return;
            }
            store.put(piece, block, giver, value);
            if (store.heldOf(piece) < crowd.whole.blocks) {
                return;
            }
            if (store.sumOf(piece, crowd.whole.blocks) == crowd.whole.sumOf(piece)) {
                complete(member, piece);
            } else {
                fail(taker, piece);
            }
        }

        private boolean isSpare(Store store, int giver, int piece, int block) {
            if (isIn(store.has, piece) || store.holds(piece, block)) {
                return true;
            }
            return isIn(store.marked, piece) && (store.giversOf(piece) & ~(1 << giver)) != 0;
        }

        private void complete(Member member, int piece) {
            member.store.has |= 1 << piece;
            if (member.store.has == crowd.whole.allPieces()) {
                member.doneTick = crowd.tickNumber;
            }
        }

        private void fail(int taker, int piece) {
            Member member = crowd.members[taker];
            int givers = member.store.giversOf(piece);
            for (int i = 0; i < crowd.size; i++) {
                if (isIn(givers, i)) {
                    member.ties.doubts[i]++;
                    if (givers == 1 << i) {
                        ban(taker, i);
                    }
                }
            }
            member.store.drop(piece);
            member.store.marked |= 1 << piece;
            member.failed++;
        }

        private void ban(int by, int whom) {
            Ties ties = crowd.members[by].ties;
            Ties others = crowd.members[whom].ties;
            ties.banned |= 1 << whom;
            others.bannedBy |= 1 << by;
            ties.open &= ~(1 << whom);
            others.open &= ~(1 << by);
        }
    }

    /** Step b of a TICK: each PEER OPENS anew. */
    private static final class Opening {
        private final Crowd crowd;

        Opening(Crowd crowd) {
            this.crowd = crowd;
        }

        void openAll() {
            for (int i = 0; i < crowd.size; i++) {
                if (isIn(crowd.here, i)) {
                    openAnew(i);
                }
            }
        }

        private void openAnew(int a) {
            Member member = crowd.members[a];
            Ties ties = member.ties;
            int wanters = member.opensToNobody() ? 0 : crowd.wantersOf(a);
            int open = 0;
            for (int i = 0; i < OPEN_BY_LATE; i++) {
                open |= setOf(latest(member, wanters & ~open));
            }
            int byTurns = nextByTurns(ties.latestByTurns, wanters & ~open);
            if (byTurns != NONE) {
                ties.latestByTurns = byTurns;
            }
            ties.openedByTurns = byTurns;
            ties.open = open | setOf(byTurns);
            ties.forgetLate();
        }

        private static int setOf(int number) {
            return number == NONE ? 0 : 1 << number;
        }

        /** Who of a set has the greatest LATE number, of like ones the least number; NONE of an empty set. */
        private int latest(Member member, int set) {
            int best = NONE;
            for (int i = 0; i < crowd.size; i++) {
                if (isIn(set, i) && (best == NONE || member.lateNumberOf(i) > member.lateNumberOf(best))) {
                    best = i;
                }
            }
            return best;
        }

        private int nextByTurns(int latest, int set) {
            int first = NONE;
            for (int i = 0; i < crowd.size; i++) {
                if (!isIn(set, i)) {
                    continue;
                }
                if (i > latest) {
                    return i;
                }
                if (first == NONE) {
                    first = i;
                }
            }
            return first;
        }
    }

    /** Step c of a TICK: who asks what of whom. */
    private static final class Asking {
        // Above what any PIECE can be told by, so that all PIECES that are begun come before the others.
        private static final int NOT_BEGUN = MOST_PEERS + 1;

        private final Crowd crowd;

        Asking(Crowd crowd) {
            this.crowd = crowd;
        }

        /** A MARKED PIECE must come from one PEER alone; one that isn't NEAR any more can't end it. */
        void dropStranded() {
            for (int i = 0; i < crowd.size; i++) {
                if (isIn(crowd.here, i)) {
                    dropStrandedOf(crowd.members[i].store, crowd.nearTo(i));
                }
            }
        }

        private void dropStrandedOf(Store store, int near) {
            int marked = store.marked & ~store.has;
            for (int piece = 0; piece < crowd.whole.pieces; piece++) {
                if (isIn(marked, piece) && (store.giversOf(piece) & ~near) != 0) {
                    store.drop(piece);
                }
            }
        }

        void runRounds() {
            for (int i = 0; i < crowd.size; i++) {
                crowd.members[i].maySend = crowd.members[i].up;
                crowd.members[i].mayAsk = crowd.members[i].down;
            }
            boolean asked = true;
            for (int round = 0; asked && round <= MOST_PEERS * MOST_RATE; round++) {
                asked = false;
                for (int i = 0; i < crowd.size; i++) {
                    if (isIn(crowd.here, i) && askOne(i)) {
                        asked = true;
                    }
                }
            }
        }

        private boolean askOne(int taker) {
            Member member = crowd.members[taker];
            if (member.mayAsk <= 0 || member.isDone() || !crowd.road.hasRoom()) {
                return false;
            }
            int givers = giversTo(taker);
            if (givers == 0) {
                return false;
            }
            int piece = pickPiece(taker, givers);
            if (piece == NONE) {
                return askAtEnd(taker, givers);
            }
            int block = member.store.firstUnasked(piece, crowd.whole.blocks);
            return send(readiest(giversThatMayBe(taker, piece, givers)), taker, piece, block);
        }

        private int giversTo(int taker) {
            int near = crowd.nearTo(taker);
            int givers = 0;
            for (int i = 0; near != 0 && i < crowd.size; i++) {
                Member member = crowd.members[i];
                if (isIn(near, i) && isIn(member.ties.open, taker) && member.maySend > 0) {
                    givers |= 1 << i;
                }
            }
            return givers;
        }

        private int pickPiece(int taker, int givers) {
            Store store = crowd.members[taker].store;
            int near = crowd.nearTo(taker);
            int best = NONE;
            int bestRank = 0;
            for (int piece = 0; piece < crowd.whole.pieces; piece++) {
                if (isIn(store.has, piece) || store.firstUnasked(piece, crowd.whole.blocks) == NONE
                        || giversThatMayBe(taker, piece, givers) == 0) {
                    continue;
                }
                int tellers = Integer.bitCount(crowd.tellersAmong(near, piece));
                int rank = store.isBegun(piece) ? tellers : tellers + NOT_BEGUN;
                if (best == NONE || rank < bestRank) {
                    best = piece;
                    bestRank = rank;
                }
            }
            return best;
        }

        private int giversThatMayBe(int taker, int piece, int givers) {
            int tellers = crowd.tellersAmong(givers, piece);
            Store store = crowd.members[taker].store;
            if (!isIn(store.marked, piece)) {
                return tellers;
            }
            int bidden = store.firstGiver(piece);
            if (bidden == NONE) {
                bidden = crowd.road.firstGiver(taker, piece);
            }
            return bidden == NONE ? tellers : tellers & 1 << bidden;
        }

        /** Who of a set may send the most still, of like ones the least number; NONE of an empty set. */
        private int readiest(int set) {
            int best = NONE;
            for (int i = 0; i < crowd.size; i++) {
                if (isIn(set, i) && (best == NONE || crowd.members[i].maySend > crowd.members[best].maySend)) {
                    best = i;
                }
            }
            return best;
        }

        private boolean askAtEnd(int taker, int givers) {
            Store store = crowd.members[taker].store;
            int apart = store.has | store.marked;
            for (int piece = 0; piece < crowd.whole.pieces; piece++) {
                int tellers = isIn(apart, piece) ? 0 : crowd.tellersAmong(givers, piece);
                for (int block = 0; tellers != 0 && block < crowd.whole.blocks; block++) {
                    if (store.holds(piece, block) || store.coming[place(piece, block)] != 1) {
                        continue;
                    }
                    int sender = crowd.road.firstGiverOf(taker, piece, block);
                    int others = sender == NONE ? tellers : tellers & ~(1 << sender);
                    if (others != 0) {
                        return send(readiest(others), taker, piece, block);
                    }
                }
            }
            return false;
        }

        private boolean send(int giver, int taker, int piece, int block) {
            if (giver == NONE || block == NONE) {
                return false;
            }
            Member from = crowd.members[giver];
            Member to = crowd.members[taker];
            from.maySend--;
            from.sent++;
            from.ties.sent[taker]++;
            from.ties.sentLate[taker]++;
            to.mayAsk--;
            to.store.expect(piece, block);
            crowd.sentInAll++;
            int value = crowd.whole.valueOf(piece, block);
            int dueTick = crowd.tickNumber + (from.kind == SLOW ? SLOW_TICKS : 0);
            crowd.road.add(giver, taker, piece, block, from.nowSendsFalse() ? value ^ 1 : value, dueTick);
            return true;
        }
    }
}
