import java.util.ArrayList;
import java.util.List;
import java.util.Map;
import java.util.Random;
import java.util.TreeMap;

/** Runs of 512 calls, drawn from fixed seeds, on the program and on SwarmModel: all answers must be the same. */
public final class ModelTest {
    private static final int RUNS = 1500;
    private static final int CALLS = 512;
    private static final String[] TURNS_TO_MEET = {
        "lost with its sender", "lost with its receiver", "spare, had or held", "spare, marked and of another",
        "held of a banned one", "failed", "failed again", "failed of one", "failed of many", "turns begin anew",
        "next by turns", "opened by what came", "stranded", "marked and held", "marked and coming", "the end",
        "a bound", "more than 100 coming",
        "banned and was open to it"};

    private final Random random;
    private final PieceSwarm program = new PieceSwarm();
    private final SwarmModel model;
    private final Checks checks;
    private final List<String> calls = new ArrayList<>();
    private final boolean crowded;
    private final int mostTicks;
    private int pieces;
    private int blocks;
    private int peers;

    private ModelTest(int seed, Checks checks, Map<String, Integer> met) {
        this.random = new Random(seed);
        this.checks = checks;
        this.model = new SwarmModel(met);
        this.crowded = seed % 50 == 0;
        this.mostTicks = 1 + random.nextInt(4);
    }

    public static void main(String[] args) {
        Checks checks = new Checks("ModelTest");
        Map<String, Integer> met = new TreeMap<>();
        for (int seed = 0; seed < RUNS && !checks.anyWrong(); seed++) {
            new ModelTest(seed, checks, met).run();
        }
        for (String turn : TURNS_TO_MEET) {
            checks.due("runs that meet: " + turn, met.getOrDefault(turn, 0) > 0, true);
        }
        checks.end();
    }

    private void run() {
        if (crowded) {
            setUpCrowd();
        } else {
            setUp();
        }
        while (calls.size() < CALLS && !checks.anyWrong()) {
            if (random.nextInt(5) == 0) {
                change();
            } else {
                look();
            }
        }
        checks.due("calls of one object", calls.size() <= CALLS, true);
        if (checks.anyWrong()) {
            System.out.println(String.join("\n", calls));
        }
    }

    private void same(String call, int got, int want) {
        calls.add(call + " = " + got);
        checks.due(call, got, want);
    }

    private void same(String call, boolean got, boolean want) {
        same(call, got ? 1 : 0, want ? 1 : 0);
    }

    private int near(int least, int most) {
        return random.nextInt(40) == 0
            ? new int[] {least - 1, most + 1, Integer.MIN_VALUE, Integer.MAX_VALUE, -1}[random.nextInt(5)]
            : least + random.nextInt(most - least + 1);
    }

    private int anyPeer() {
        return near(0, Math.max(0, peers - 1));
    }

    private int anyPiece() {
        return near(0, pieces - 1);
    }

    private int anyBlock() {
        return near(0, blocks - 1);
    }

    private void setUp() {
        pieces = random.nextBoolean() ? 1 + random.nextInt(24) : 1 + random.nextInt(4);
        blocks = 1 + random.nextInt(4);
        int seed = random.nextInt();
        same("file " + pieces + " " + blocks + " " + seed, program.file(pieces, blocks, seed),
            model.file(pieces, blocks, seed));
        int many = 1 + random.nextInt(12);
        int firstSeed = random.nextInt(many);
        for (int i = 0; i < many; i++) {
            addPeer(i == firstSeed ? 1 : anyKind());
        }
        int share = 20 + random.nextInt(81);
        for (int a = 0; a < peers; a++) {
            for (int b = 0; b < a; b++) {
                if (random.nextInt(100) < share) {
                    meet(a, b);
                }
            }
        }
    }

    /**
     * Eleven SLOW ones that each got other pieces of the seed, and so can all give and take as much as may be: as much
     * as can be is on its way. Each in its turn is alone with the seed when this one opens; the others then come back,
     * so that what they have is not rare.
     */
    private void setUpCrowd() {
        pieces = 24;
        blocks = 4;
        same("file 24 4 1", program.file(24, 4, 1), model.file(24, 4, 1));
        for (peers = 0; peers < 12; peers++) {
            int kind = peers == 0 ? 1 : 4;
            same("peer " + kind + " 8 8", program.peer(kind, 8, 8), model.peer(kind, 8, 8));
            for (int i = 0; i < peers; i++) {
                meet(i, peers);
            }
        }
        for (int taker = 1; taker < peers; taker++) {
            for (int i = 1; i < peers; i++) {
                if (i != taker) {
                    leave(i);
                }
            }
            tick(1);
            for (int i = 1; i < peers; i++) {
                if (i != taker) {
                    join(i);
                }
            }
            tick(3);
        }
        for (int i = 0; i < 6; i++) {
            tick(1);
        }
    }

    private int anyKind() {
        int[] kinds = {0, 0, 0, 1, 2, 3, 3, 3, 4, 4, 5};
        return kinds[random.nextInt(kinds.length)];
    }

    private void addPeer(int kind) {
        int up = near(1, 8);
        int down = near(1, 8);
        same("peer " + kind + " " + up + " " + down, program.peer(kind, up, down), model.peer(kind, up, down));
        peers = model.count(1);
    }

    private void meet(int a, int b) {
        same("meet " + a + " " + b, program.meet(a, b), model.meet(a, b));
    }

    private void leave(int p) {
        same("leave " + p, program.leave(p), model.leave(p));
    }

    private void join(int p) {
        same("join " + p, program.join(p), model.join(p));
    }

    private void tick(int n) {
        same("tick " + n, program.tick(n), model.tick(n));
    }

    private void change() {
        int a = anyPeer();
        int b = anyPeer();
        int x = random.nextInt(100);
        if (x < 50) {
            int n = random.nextInt(60) == 0 ? near(0, 50) : random.nextInt(mostTicks + 1);
            tick(n);
        } else if (x < 60) {
            leave(a);
        } else if (x < 75) {
            join(a);
        } else if (x < 85) {
            meet(a, b);
        } else if (x < 95) {
            int f = random.nextBoolean() ? near(1, 4) : near(1, 100);
            same("often " + a + " " + f, program.often(a, f), model.often(a, f));
        } else if (x < 98) {
            addPeer(near(0, 5));
        } else {
            same("file 2 2 2", program.file(2, 2, 2), model.file(2, 2, 2));
        }
    }

    private void look() {
        int a = anyPeer();
        int b = anyPeer();
        int piece = anyPiece();
        int block = anyBlock();
        switch (random.nextInt(15)) {
            case 0 -> same("value " + piece + " " + block, program.value(piece, block), model.value(piece, block));
            case 1 -> same("sum " + piece, program.sum(piece), model.sum(piece));
            case 2, 3, 4 -> {
                int what = near(0, 13);
                same("about " + a + " " + what, program.about(a, what), model.about(a, what));
            }
            case 5 -> same("held " + a + " " + piece, program.held(a, piece), model.held(a, piece));
            case 6 -> same("from " + a + " " + piece + " " + block, program.from(a, piece, block),
                model.from(a, piece, block));
            case 7 -> same("got " + a + " " + piece + " " + block, program.got(a, piece, block),
                model.got(a, piece, block));
            case 8 -> same("rare " + a + " " + piece, program.rare(a, piece), model.rare(a, piece));
            case 9, 10, 11 -> {
                int what = near(0, 8);
                same("pair " + a + " " + b + " " + what, program.pair(a, b, what), model.pair(a, b, what));
            }
            case 12 -> {
                int p = random.nextInt(4) == 0 ? -1 : a;
                same("alone " + p, program.alone(p), model.alone(p));
            }
            case 13 -> same("bound " + a, program.bound(a), model.bound(a));
            default -> {
                int what = near(0, 10);
                same("count " + what, program.count(what), model.count(what));
            }
        }
    }
}
