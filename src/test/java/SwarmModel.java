import java.util.ArrayList;
import java.util.List;
import java.util.Map;
import java.util.TreeMap;
import java.util.TreeSet;

/**
 * The document's words written down a second time, as plainly as they stand: lists that are searched anew for each
 * question, no sets of bits, no kept sums. Slow, and made only to be compared with the program.
 */
final class SwarmModel {
    private static final int NONE = -1;

    private static final class Block {
        int sender;
        int receiver;
        int piece;
        int number;
        int value;
        int due;
    }

    private static final class Held {
        final int value;
        final int sender;

        Held(int value, int sender) {
            this.value = value;
            this.sender = sender;
        }
    }

    private static final class Peer {
        int number;
        int kind;
        int up;
        int down;
        int f = 2;
        boolean here = true;
        int done = NONE;
        int lastTurn = NONE;
        int turnNow = NONE;
        int came;
        int sent;
        int spare;
        int fails;
        int upLeft;
        int downLeft;
        final TreeSet<Integer> has = new TreeSet<>();
        final TreeSet<Integer> marked = new TreeSet<>();
        final TreeSet<Integer> met = new TreeSet<>();
        final TreeSet<Integer> banned = new TreeSet<>();
        final TreeSet<Integer> open = new TreeSet<>();
        final Map<Integer, Map<Integer, Held>> blocks = new TreeMap<>();
        final Map<Integer, Integer> lateCame = new TreeMap<>();
        final Map<Integer, Integer> lateSent = new TreeMap<>();
        final Map<Integer, Integer> sentTo = new TreeMap<>();
        final Map<Integer, Integer> doubted = new TreeMap<>();

        Map<Integer, Held> kept(int piece) {
            return blocks.computeIfAbsent(piece, k -> new TreeMap<>());
        }

        boolean tells(int piece) {
            return has.contains(piece) && (kind != 5 || piece % 2 == 0);
        }
    }

    /** How often each of the rarer turns of the rules was taken, so that a test can tell that it met them. */
    final Map<String, Integer> met;

    private int n = 1;
    private int k = 1;
    private int seed;
    private int time;
    private int sentInAll;
    private int lost;
    private final List<Peer> peers = new ArrayList<>();
    private final List<Block> coming = new ArrayList<>();

    SwarmModel(Map<String, Integer> met) {
        this.met = met;
    }

    private void note(String turn) {
        met.merge(turn, 1, Integer::sum);
    }

    private boolean is(int p) {
        return p >= 0 && p < peers.size();
    }

    private boolean isPiece(int piece) {
        return piece >= 0 && piece < n;
    }

    private boolean isBlock(int piece, int block) {
        return isPiece(piece) && block >= 0 && block < k;
    }

    private static int number(Map<Integer, Integer> map, int key) {
        return map.getOrDefault(key, 0);
    }

    boolean file(int pieces, int blocks, int newSeed) {
        if (!peers.isEmpty() || pieces < 1 || pieces > 24 || blocks < 1 || blocks > 4) {
            return false;
        }
        n = pieces;
        k = blocks;
        seed = newSeed;
        return true;
    }

    int value(int piece, int block) {
        if (!isBlock(piece, block)) {
            return 0;
        }
        int x = seed + 4 * piece + block;
        x = x * 1103515245 + 12345;
        return x ^ (x >>> 15);
    }

    int sum(int piece) {
        int s = 0;
        for (int b = 0; isPiece(piece) && b < k; b++) {
            s = s * 69069 + value(piece, b);
        }
        return s;
    }

    int peer(int kind, int up, int down) {
        if (peers.size() == 12 || kind < 0 || kind > 5 || up < 1 || up > 8 || down < 1 || down > 8) {
            return NONE;
        }
        Peer x = new Peer();
        x.number = peers.size();
        x.kind = kind;
        x.up = up;
        x.down = down;
        if (kind == 1) {
            for (int p = 0; p < n; p++) {
                x.has.add(p);
            }
            x.done = 0;
        }
        peers.add(x);
        return x.number;
    }

    boolean often(int p, int f) {
        if (!is(p) || peers.get(p).kind != 3 || f < 1 || f > 100) {
            return false;
        }
        peers.get(p).f = f;
        return true;
    }

    boolean meet(int a, int b) {
        if (!is(a) || !is(b) || a == b || peers.get(a).met.contains(b)) {
            return false;
        }
        peers.get(a).met.add(b);
        peers.get(b).met.add(a);
        return true;
    }

    boolean leave(int p) {
        if (!is(p) || !peers.get(p).here) {
            return false;
        }
        peers.get(p).here = false;
        peers.get(p).open.clear();
        for (Peer x : peers) {
            x.open.remove(p);
        }
        for (int i = coming.size() - 1; i >= 0; i--) {
            if (coming.get(i).sender == p || coming.get(i).receiver == p) {
                note(coming.get(i).sender == p ? "lost with its sender" : "lost with its receiver");
                coming.remove(i);
                lost++;
            }
        }
        return true;
    }

    boolean join(int p) {
        if (!is(p) || peers.get(p).here) {
            return false;
        }
        peers.get(p).here = true;
        return true;
    }

    private boolean near(Peer a, Peer b) {
        return a.met.contains(b.number) && a.here && b.here
                && !a.banned.contains(b.number) && !b.banned.contains(a.number);
    }

    private boolean wants(Peer b, Peer a) {
        if (!near(a, b)) {
            return false;
        }
        for (int p = 0; p < n; p++) {
            if (a.tells(p) && !b.has.contains(p)) {
                return true;
            }
        }
        return false;
    }

    private int late(Peer a, int b) {
        return a.has.size() == n ? number(a.lateSent, b) : number(a.lateCame, b);
    }

    int tick(int ticks) {
        if (ticks < 0 || ticks > 50) {
            return NONE;
        }
        int before = sentInAll;
        for (int i = 0; i < ticks; i++) {
            time++;
            comeAll();
            if ((time - 1) % 4 == 0) {
                peers.stream().filter(x -> x.here).forEach(this::open);
            }
            peers.stream().filter(x -> x.here).forEach(this::forgetStranded);
            rounds();
            comeAll();
        }
        return sentInAll - before;
    }

    private void comeAll() {
        List<Block> due = new ArrayList<>();
        for (Block x : coming) {
            if (x.due == time) {
                due.add(x);
            }
        }
        for (Block x : due) {
            coming.remove(x);
            come(x);
        }
    }

    private void come(Block x) {
        Peer to = peers.get(x.receiver);
        to.came++;
        to.lateCame.merge(x.sender, 1, Integer::sum);
        Map<Integer, Held> kept = to.kept(x.piece);
        boolean fromAnother = false;
        for (Held held : kept.values()) {
            fromAnother |= held.sender != x.sender;
        }
        boolean twice = to.has.contains(x.piece) || kept.containsKey(x.number);
        if (twice || to.marked.contains(x.piece) && fromAnother) {
            note(twice ? "spare, had or held" : "spare, marked and of another");
            to.spare++;
            return;
        }
        if (to.banned.contains(x.sender)) {
            note("held of a banned one");
        }
        kept.put(x.number, new Held(x.value, x.sender));
        if (kept.size() == k) {
            judge(to, x.piece);
        }
    }

    private void judge(Peer to, int piece) {
        int s = 0;
        TreeSet<Integer> senders = new TreeSet<>();
        for (Held held : to.kept(piece).values()) {
            s = s * 69069 + held.value;
            senders.add(held.sender);
        }
        if (s == sum(piece)) {
            to.has.add(piece);
            if (to.has.size() == n) {
                to.done = time;
            }
            return;
        }
        note(to.marked.contains(piece) ? "failed again" : "failed");
        note(senders.size() == 1 ? "failed of one" : "failed of many");
        for (int sender : senders) {
            to.doubted.merge(sender, 1, Integer::sum);
            if (senders.size() == 1) {
                to.banned.add(sender);
                note(to.open.remove(sender) ? "banned and was open to it" : "banned");
                peers.get(sender).open.remove(to.number);
            }
        }
        to.kept(piece).clear();
        to.marked.add(piece);
        to.fails++;
    }

    private void open(Peer a) {
        List<Integer> wanting = new ArrayList<>();
        for (Peer b : peers) {
            if (a.kind != 2 && a.kind != 5 && wants(b, a)) {
                wanting.add(b.number);
            }
        }
        List<Integer> order = new ArrayList<>(wanting);
        order.sort((x, y) -> late(a, x) != late(a, y) ? late(a, y) - late(a, x) : x - y);
        TreeSet<Integer> others = new TreeSet<>(wanting);
        a.open.clear();
        for (int i = 0; i < 3 && i < order.size(); i++) {
            a.open.add(order.get(i));
            others.remove(order.get(i));
        }
        a.turnNow = NONE;
        if (!others.isEmpty()) {
            Integer next = others.higher(a.lastTurn);
            note(next == null ? "turns begin anew" : "next by turns");
            a.turnNow = next == null ? others.first() : next;
            a.lastTurn = a.turnNow;
            a.open.add(a.turnNow);
        }
        if (a.lateCame.size() > 1 && a.done == NONE) {
            note("opened by what came");
        }
        a.lateCame.clear();
        a.lateSent.clear();
    }

    private void forgetStranded(Peer x) {
        for (int piece : x.marked) {
            if (x.has.contains(piece)) {
                continue;
            }
            boolean stranded = false;
            for (Held held : x.kept(piece).values()) {
                stranded |= !near(x, peers.get(held.sender));
            }
            if (stranded) {
                note("stranded");
                x.kept(piece).clear();
            }
        }
    }

    private void rounds() {
        for (Peer x : peers) {
            x.upLeft = x.up;
            x.downLeft = x.down;
        }
        boolean any;
        do {
            any = false;
            for (Peer d : peers) {
                any |= d.here && d.downLeft > 0 && ask(d);
            }
        } while (any);
    }

    private List<Block> comingTo(Peer d, int piece, int block) {
        List<Block> found = new ArrayList<>();
        for (Block x : coming) {
            if (x.receiver == d.number && x.piece == piece && (block == NONE || x.number == block)) {
                found.add(x);
            }
        }
        return found;
    }

    private List<Peer> givers(Peer d, int piece) {
        List<Peer> found = new ArrayList<>();
        for (Peer g : peers) {
            if (near(g, d) && g.open.contains(d.number) && g.upLeft > 0 && g.tells(piece)) {
                found.add(g);
            }
        }
        return found;
    }

    private List<Peer> giversThatMayBe(Peer d, int piece) {
        List<Peer> found = givers(d, piece);
        if (d.marked.contains(piece)) {
            int must = NONE;
            if (!d.kept(piece).isEmpty()) {
                must = d.kept(piece).values().iterator().next().sender;
                note("marked and held");
            } else if (!comingTo(d, piece, NONE).isEmpty()) {
                must = comingTo(d, piece, NONE).get(0).sender;
                note("marked and coming");
            }
            int only = must;
            found.removeIf(g -> only != NONE && g.number != only);
        }
        return found;
    }

    private Peer most(List<Peer> givers) {
        Peer best = null;
        for (Peer g : givers) {
            if (best == null || g.upLeft > best.upLeft) {
                best = g;
            }
        }
        return best;
    }

    private int firstToAsk(Peer d, int piece) {
        for (int b = 0; b < k; b++) {
            if (!d.kept(piece).containsKey(b) && comingTo(d, piece, b).isEmpty()) {
                return b;
            }
        }
        return NONE;
    }

    private boolean ask(Peer d) {
        List<int[]> can = new ArrayList<>();
        for (int p = 0; p < n; p++) {
            if (!d.has.contains(p) && firstToAsk(d, p) != NONE && !giversThatMayBe(d, p).isEmpty()) {
                boolean begun = !d.kept(p).isEmpty() || !comingTo(d, p, NONE).isEmpty();
                can.add(new int[] {begun ? 0 : 1, rare(d.number, p), p});
            }
        }
        can.sort((x, y) -> x[0] != y[0] ? x[0] - y[0] : x[1] != y[1] ? x[1] - y[1] : x[2] - y[2]);
        if (!can.isEmpty()) {
            int piece = can.get(0)[2];
            send(most(giversThatMayBe(d, piece)), d, piece, firstToAsk(d, piece));
            return true;
        }
        for (int p = 0; p < n; p++) {
            for (int b = 0; b < k; b++) {
                List<Block> under = comingTo(d, p, b);
                if (d.has.contains(p) || d.marked.contains(p) || d.kept(p).containsKey(b) || under.size() != 1) {
                    continue;
                }
                List<Peer> others = givers(d, p);
                others.removeIf(g -> g.number == under.get(0).sender);
                if (!others.isEmpty()) {
                    note("the end");
                    send(most(others), d, p, b);
                    return true;
                }
            }
        }
        return false;
    }

    private void send(Peer g, Peer d, int piece, int block) {
        g.upLeft--;
        d.downLeft--;
        g.sent++;
        sentInAll++;
        g.sentTo.merge(d.number, 1, Integer::sum);
        g.lateSent.merge(d.number, 1, Integer::sum);
        Block x = new Block();
        x.sender = g.number;
        x.receiver = d.number;
        x.piece = piece;
        x.number = block;
        x.value = value(piece, block);
        if (g.kind == 3 && g.sent % g.f == 0) {
            x.value ^= 1;
        }
        x.due = g.kind == 4 ? time + 2 : time;
        coming.add(x);
        if (coming.size() > 100) {
            note("more than 100 coming");
        }
    }

    int about(int p, int what) {
        if (!is(p)) {
            return NONE;
        }
        Peer x = peers.get(p);
        int toIt = 0;
        for (Block b : coming) {
            toIt += b.receiver == p ? 1 : 0;
        }
        int[] answers = {x.kind, x.here ? 1 : 0, x.has.size(), heldInAll(x), x.came, x.sent, x.spare, x.fails,
            x.marked.size(), x.done, toIt, x.banned.size(), x.open.size(), x.met.size()};
        return what < 0 || what >= answers.length ? NONE : answers[what];
    }

    private int heldInAll(Peer x) {
        int held = 0;
        for (int p = 0; p < n; p++) {
            held += x.has.contains(p) ? 0 : x.kept(p).size();
        }
        return held;
    }

    int held(int p, int piece) {
        if (!is(p) || !isPiece(piece)) {
            return NONE;
        }
        return peers.get(p).has.contains(piece) ? k : peers.get(p).kept(piece).size();
    }

    int from(int p, int piece, int block) {
        if (!is(p) || !isBlock(piece, block)) {
            return NONE;
        }
        Held held = peers.get(p).kept(piece).get(block);
        return held == null ? NONE : held.sender;
    }

    int got(int p, int piece, int block) {
        if (!is(p) || !isBlock(piece, block)) {
            return 0;
        }
        if (peers.get(p).has.contains(piece)) {
            return value(piece, block);
        }
        Held held = peers.get(p).kept(piece).get(block);
        return held == null ? 0 : held.value;
    }

    int rare(int p, int piece) {
        if (!is(p) || !isPiece(piece)) {
            return NONE;
        }
        int tell = 0;
        for (Peer x : peers) {
            tell += near(x, peers.get(p)) && x.tells(piece) ? 1 : 0;
        }
        return tell;
    }

    int pair(int a, int b, int what) {
        if (!is(a) || !is(b) || a == b) {
            return NONE;
        }
        Peer x = peers.get(a);
        Peer y = peers.get(b);
        boolean turn = x.turnNow == b && x.open.contains(b);
        int[] answers = {x.met.contains(b) ? 1 : 0, near(x, y) ? 1 : 0, wants(y, x) ? 1 : 0,
            x.open.contains(b) ? 1 : 0, late(x, b), number(x.sentTo, b), number(x.doubted, b),
            x.banned.contains(b) ? 1 : 0, turn ? 1 : 0};
        return what < 0 || what >= answers.length ? NONE : answers[what];
    }

    int alone(int p) {
        if (p != NONE && !is(p)) {
            return NONE;
        }
        int found = 0;
        for (int piece = 0; piece < n; piece++) {
            boolean others = false;
            for (Peer x : peers) {
                others |= x.number != p && x.here && x.has.contains(piece);
            }
            found += !others && (p == NONE || peers.get(p).has.contains(piece)) ? 1 : 0;
        }
        return found;
    }

    int bound(int s) {
        if (!is(s) || !peers.get(s).here || peers.get(s).has.size() < n) {
            return NONE;
        }
        int all = n * k;
        int others = 0;
        int ups = 0;
        double greatest = (double) all / peers.get(s).up;
        for (Peer x : peers) {
            if (!x.here) {
                continue;
            }
            ups += x.up;
            if (x.number == s) {
                continue;
            }
            others++;
            if (!x.has.isEmpty() || heldInAll(x) > 0 || about(x.number, 10) > 0) {
                return NONE;
            }
            greatest = Math.max(greatest, (double) all / x.down);
        }
        if (others == 0) {
            return NONE;
        }
        note("a bound");
        return (int) Math.ceil(Math.max(greatest, (double) all * others / ups));
    }

    int count(int what) {
        int here = 0;
        int done = 0;
        int fails = 0;
        int spare = 0;
        for (Peer x : peers) {
            here += x.here ? 1 : 0;
            done += x.here && x.has.size() == n ? 1 : 0;
            fails += x.fails;
            spare += x.spare;
        }
        int[] answers = {time, peers.size(), here, done, n, k, sentInAll, coming.size(), lost, fails, spare};
        return what < 0 || what >= answers.length ? NONE : answers[what];
    }
}
