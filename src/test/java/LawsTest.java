import java.util.Map;
import java.util.Random;

/**
 * What the document says of one answer by others, asked behind drawn runs: no second program is needed to know that
 * these hold. Each run is looked at before and behind one tick more.
 */
public final class LawsTest implements Terms {
    private static final int RUNS = 250;

    private final Random random;
    private final Checks checks;
    private final int pieces;
    private final int blocks;
    private final int peers;
    private final int[] kinds;
    private final int[] up;
    private final int[] down;
    private Run run = new Run();
    private Map<String, Integer> answers;

    private LawsTest(int seed, Checks checks) {
        this.random = new Random(seed);
        this.checks = checks;
        this.pieces = seed % 2 == 0 ? 1 + random.nextInt(24) : 1 + random.nextInt(4);
        this.blocks = 1 + random.nextInt(4);
        this.peers = 2 + random.nextInt(11);
        this.kinds = new int[peers];
        this.up = new int[peers];
        this.down = new int[peers];
        checks.begin("run " + seed);
    }

    public static void main(String[] args) {
        Checks checks = new Checks("LawsTest");
        for (int seed = 0; seed < RUNS; seed++) {
            new LawsTest(seed, checks).check();
        }
        checks.begin("LawsTest");
        checks.end();
    }

    private void check() {
        begin();
        int changes = 10 + random.nextInt(50);
        for (int i = 0; i < changes; i++) {
            change();
        }
        Look look = new Look(pieces, blocks, peers);
        answers = look.namedAnswersBehind(run);
        checkAll();
        Map<String, Integer> before = answers;
        int sent = run.made().tick(1);
        run = run.tick(1);
        answers = look.namedAnswersBehind(run);
        checkAll();
        checkTick(before, sent);
    }

    private void begin() {
        run = run.file(pieces, blocks, random.nextInt());
        int first = random.nextInt(peers);
        for (int p = 0; p < peers; p++) {
            kinds[p] = p == first ? SEED : new int[] {PLAIN, PLAIN, FREE, FALSE, FALSE, SLOW, SHY}[random.nextInt(7)];
            up[p] = 1 + random.nextInt(8);
            down[p] = 1 + random.nextInt(8);
            run = run.peer(kinds[p], up[p], down[p]);
        }
        int share = 40 + random.nextInt(61);
        for (int a = 0; a < peers; a++) {
            for (int b = 0; b < a; b++) {
                run = random.nextInt(100) < share ? run.meet(a, b) : run;
            }
        }
    }

    private void change() {
        int p = random.nextInt(peers);
        switch (random.nextInt(8)) {
            case 0 -> run = run.leave(p);
            case 1, 2 -> run = run.join(p);
            case 3 -> run = run.often(p, 1 + random.nextInt(4));
            default -> run = run.tick(random.nextInt(3));
        }
    }

    private int about(int p, int what) {
        return answers.get("about(" + p + ", " + what + ")");
    }

    private int pair(int a, int b, int what) {
        return answers.get("pair(" + a + ", " + b + ", " + what + ")");
    }

    private int count(int what) {
        return answers.get("count(" + what + ")");
    }

    private int ofPiece(String call, int p, int piece) {
        return answers.get(call + "(" + p + ", " + piece + ")");
    }

    private int ofBlock(String call, int p, int piece, int block) {
        return answers.get(call + "(" + p + ", " + piece + ", " + block + ")");
    }

    private int sumOfAbout(int what) {
        int sum = 0;
        for (int p = 0; p < peers; p++) {
            sum += about(p, what);
        }
        return sum;
    }

    private int sumOfPairs(int a, int what) {
        int sum = 0;
        for (int b = 0; b < peers; b++) {
            sum += a == b ? 0 : pair(a, b, what);
        }
        return sum;
    }

    private boolean has(int p, int piece) {
        return ofPiece("held", p, piece) == blocks;
    }

    private boolean opens(int p) {
        return kinds[p] != FREE && kinds[p] != SHY;
    }

    private boolean tells(int p, int piece) {
        return has(p, piece) && (kinds[p] != SHY || piece % 2 == 0);
    }

    private void checkAll() {
        checkCounts();
        checkAlone();
        for (int p = 0; p < peers; p++) {
            checkPeer(p);
            checkBound(p);
            for (int piece = 0; piece < pieces; piece++) {
                checkPiece(p, piece);
            }
            for (int b = 0; b < peers; b++) {
                if (b != p) {
                    checkPair(p, b);
                }
            }
        }
    }

    /** All that was sent came, is COMING or is lost. */
    private void checkCounts() {
        checks.due("PEERS", count(1), peers);
        checks.due("HERE", count(2), sumOfAbout(1));
        checks.due("sent", count(6), sumOfAbout(5));
        checks.due("sent, by where it is", count(6), sumOfAbout(4) + count(7) + count(8));
        checks.due("COMING", count(7), sumOfAbout(10));
        checks.due("FAILED", count(9), sumOfAbout(7));
        checks.due("SPARE", count(10), sumOfAbout(6));
        int done = 0;
        for (int p = 0; p < peers; p++) {
            done += about(p, 1) == 1 && about(p, 2) == pieces ? 1 : 0;
        }
        checks.due("HERE and DONE", count(3), done);
    }

    private void checkPeer(int p) {
        int hasPieces = 0;
        int holds = 0;
        for (int piece = 0; piece < pieces; piece++) {
            hasPieces += has(p, piece) ? 1 : 0;
            holds += has(p, piece) ? 0 : ofPiece("held", p, piece);
        }
        checks.due("HAS, of " + p, about(p, 2), hasPieces);
        checks.due("HOLDS, of " + p, about(p, 3), holds);
        checks.due("DONE, of " + p, about(p, 9) != NONE, hasPieces == pieces);
        checks.due("sent, of " + p, about(p, 5), sumOfPairs(p, 5));
        checks.due("BANNED, of " + p, about(p, 11), sumOfPairs(p, 7));
        checks.due("open to, of " + p, about(p, 12), sumOfPairs(p, 3));
        checks.due("NEIGHBOURS, of " + p, about(p, 13), sumOfPairs(p, 0));
        checks.due("open to four at the most, " + p, about(p, 12) <= (opens(p) ? 4 : 0), true);
        checks.due("one by turns at the most, " + p, sumOfPairs(p, 8) <= 1, true);
        checks.due("each MARKED one FAILED, of " + p, about(p, 8) <= about(p, 7), true);
        checks.due("each that FAILED has one who is DOUBTED, of " + p, about(p, 7) <= sumOfPairs(p, 6), true);
        checks.due("what came is SPARE, dropped or there, of " + p, about(p, 4) - about(p, 6) >= keptOf(p), true);
        checks.due("a SEED has all, " + p, kinds[p] != SEED || about(p, 9) == 0 && about(p, 4) == 0, true);
    }

    /** The BLOCKS that one has of others. */
    private int keptOf(int p) {
        return kinds[p] == SEED ? 0 : about(p, 2) * blocks + about(p, 3);
    }

    private void checkPiece(int p, int piece) {
        int near = 0;
        for (int b = 0; b < peers; b++) {
            near += b != p && pair(p, b, 1) == 1 && tells(b, piece) ? 1 : 0;
        }
        checks.due("rare(" + p + ", " + piece + ")", ofPiece("rare", p, piece), near);
        int there = 0;
        for (int block = 0; block < blocks; block++) {
            there += checkBlock(p, piece, block) ? 1 : 0;
        }
        checks.due("held(" + p + ", " + piece + ")", ofPiece("held", p, piece), there);
    }

    /** Each BLOCK is led back to one who met the PEER, sent to it, and HAS the PIECE; answers whether it is there. */
    private boolean checkBlock(int p, int piece, int block) {
        String name = "(" + p + ", " + piece + ", " + block + ")";
        int giver = ofBlock("from", p, piece, block);
        int value = answers.get("value(" + piece + ", " + block + ")");
        int got = ofBlock("got", p, piece, block);
        if (giver == NONE) {
            checks.due("got" + name + " of nobody", got, kinds[p] == SEED ? value : 0);
            return kinds[p] == SEED;
        }
        checks.due("not a SEED, from" + name, kinds[p] != SEED, true);
        checks.due("from" + name + " met it", pair(giver, p, 0), 1);
        checks.due("from" + name + " sent to it", pair(giver, p, 5) > 0, true);
        checks.due("from" + name + " HAS it", has(giver, piece), true);
        boolean mayBeFalse = kinds[giver] == FALSE && !has(p, piece);
        checks.due("got" + name, got == value || mayBeFalse && got == (value ^ 1), true);
        return true;
    }

    private void checkPair(int a, int b) {
        String name = "(" + a + ", " + b + ")";
        boolean near = pair(a, b, 0) == 1 && about(a, 1) == 1 && about(b, 1) == 1 && pair(a, b, 7) == 0
            && pair(b, a, 7) == 0;
        boolean wants = false;
        for (int piece = 0; piece < pieces; piece++) {
            wants |= near && tells(a, piece) && !has(b, piece);
        }
        checks.due("NEIGHBOURS " + name, pair(a, b, 0), pair(b, a, 0));
        checks.due("NEAR " + name, pair(a, b, 1) == 1, near);
        checks.due("WANTS " + name, pair(a, b, 2) == 1, wants);
        checks.due("open, so NEAR " + name, pair(a, b, 3) <= pair(a, b, 1), true);
        checks.due("by turns, so open " + name, pair(a, b, 8) <= pair(a, b, 3), true);
        checks.due("BANNED, so DOUBTED " + name, pair(a, b, 7) <= pair(a, b, 6), true);
        checks.due("DOUBTED, so it sent " + name, pair(a, b, 6) <= pair(b, a, 5), true);
        checks.due("only FALSE ones are BANNED " + name, pair(a, b, 7) == 0 || kinds[b] == FALSE, true);
        int late = about(a, 9) == NONE ? pair(b, a, 5) : pair(a, b, 5);
        checks.due("LATE, so sent " + name, pair(a, b, 4) <= late, true);
    }

    private void checkAlone() {
        int missing = 0;
        int[] only = new int[peers];
        for (int piece = 0; piece < pieces; piece++) {
            int here = 0;
            for (int p = 0; p < peers; p++) {
                here += about(p, 1) == 1 && has(p, piece) ? 1 : 0;
            }
            missing += here == 0 ? 1 : 0;
            for (int p = 0; p < peers; p++) {
                only[p] += has(p, piece) && here == about(p, 1) ? 1 : 0;
            }
        }
        checks.due("alone(-1)", answers.get("alone(-1)"), missing);
        for (int p = 0; p < peers; p++) {
            checks.due("alone(" + p + ")", answers.get("alone(" + p + ")"), only[p]);
        }
    }

    /** The least number of ticks that is not less than any of the parts, by products instead of divisions. */
    private void checkBound(int s) {
        int all = pieces * blocks;
        int others = 0;
        int upTogether = 0;
        boolean bare = true;
        for (int p = 0; p < peers; p++) {
            upTogether += about(p, 1) == 1 ? up[p] : 0;
            if (p != s && about(p, 1) == 1) {
                others++;
                bare &= about(p, 2) + about(p, 3) + about(p, 10) == 0;
            }
        }
        int bound = NONE;
        if (about(s, 1) == 1 && about(s, 9) != NONE && others > 0 && bare) {
            bound = 0;
            while (bound * up[s] < all || bound * slowestOther(s) < all || bound * upTogether < all * others) {
                bound++;
            }
        }
        checks.due("bound(" + s + ")", answers.get("bound(" + s + ")"), bound);
    }

    private int slowestOther(int s) {
        int slowest = 8;
        for (int p = 0; p < peers; p++) {
            slowest = p != s && about(p, 1) == 1 ? Math.min(slowest, down[p]) : slowest;
        }
        return slowest;
    }

    /** What one tick may change. */
    private void checkTick(Map<String, Integer> before, int sent) {
        checks.due("tick(1)", sent, count(6) - before.get("count(6)"));
        checks.due("the tick", count(0), before.get("count(0)") + 1);
        checks.due("nothing is lost in a tick", count(8), before.get("count(8)"));
        for (int p = 0; p < peers; p++) {
            checkTickOfPeer(before, p);
        }
        for (String name : before.keySet()) {
            boolean grows = name.startsWith("pair(") && (name.endsWith(" 5)") || name.endsWith(" 6)")
                || name.endsWith(" 7)"));
            checks.due("never less: " + name, !grows || answers.get(name) >= before.get(name), true);
        }
    }

    private void checkTickOfPeer(Map<String, Integer> before, int p) {
        int gave = about(p, 5) - before.get("about(" + p + ", 5)");
        int asked = about(p, 4) + about(p, 10) - before.get("about(" + p + ", 4)") - before.get("about(" + p + ", 10)");
        boolean here = about(p, 1) == 1;
        checks.due("sent by its up rate, " + p, gave >= 0 && gave <= (here && opens(p) ? up[p] : 0), true);
        checks.due("asked by its down rate, " + p, asked >= 0 && asked <= (here ? down[p] : 0), true);
        for (int piece = 0; piece < pieces; piece++) {
            boolean had = before.get("held(" + p + ", " + piece + ")") == blocks;
            checks.due("HAS it still, " + p + ", " + piece, !had || has(p, piece), true);
        }
        for (int b = 0; b < peers; b++) {
            if (b == p) {
                continue;
            }
            int toThem = pair(p, b, 5) - before.get("pair(" + p + ", " + b + ", 5)");
            boolean open = pair(p, b, 3) == 1 || pair(p, b, 7) + pair(b, p, 7) > 0;
            checks.due("given to those that it is open to, " + p + ", " + b, toThem == 0 || open, true);
            checks.due("given to those that were NEAR, " + p + ", " + b,
                toThem == 0 || before.get("pair(" + p + ", " + b + ", 1)") == 1, true);
        }
    }
}
