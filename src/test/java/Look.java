import java.util.ArrayList;
import java.util.HashMap;
import java.util.List;
import java.util.Map;
import java.util.function.ToIntFunction;

/** All that can be asked of the state behind a run: every PEER, PIECE, BLOCK and what that there is. */
final class Look {
    private final List<String> names = new ArrayList<>();
    private final List<ToIntFunction<PieceSwarm>> questions = new ArrayList<>();

    /** What can be asked of a FILE of so many PIECES of so many BLOCKS and of so many PEERS. */
    Look(int pieces, int blocks, int peers) {
        for (int what = 0; what <= 10; what++) {
            int w = what;
            add("count(" + w + ")", x -> x.count(w));
        }
        add("alone(-1)", x -> x.alone(-1));
        askOfFile(pieces, blocks);
        for (int p = 0; p < peers; p++) {
            askOfPeer(p);
            askOfPairs(p, peers);
            for (int piece = 0; piece < pieces; piece++) {
                askOfPiece(p, piece, blocks);
            }
        }
    }

    private void add(String name, ToIntFunction<PieceSwarm> question) {
        names.add(name);
        questions.add(question);
    }

    private void askOfFile(int pieces, int blocks) {
        for (int piece = 0; piece < pieces; piece++) {
            int i = piece;
            add("sum(" + i + ")", x -> x.sum(i));
            for (int block = 0; block < blocks; block++) {
                int b = block;
                add("value(" + i + ", " + b + ")", x -> x.value(i, b));
            }
        }
    }

    private void askOfPeer(int p) {
        for (int what = 0; what <= 13; what++) {
            int w = what;
            add("about(" + p + ", " + w + ")", x -> x.about(p, w));
        }
        add("alone(" + p + ")", x -> x.alone(p));
        add("bound(" + p + ")", x -> x.bound(p));
    }

    private void askOfPairs(int a, int peers) {
        for (int other = 0; other < peers; other++) {
            int b = other;
            for (int what = 0; what <= 8; what++) {
                int w = what;
                add("pair(" + a + ", " + b + ", " + w + ")", x -> x.pair(a, b, w));
            }
        }
    }

    private void askOfPiece(int p, int piece, int blocks) {
        add("held(" + p + ", " + piece + ")", x -> x.held(p, piece));
        add("rare(" + p + ", " + piece + ")", x -> x.rare(p, piece));
        for (int block = 0; block < blocks; block++) {
            int b = block;
            add("from(" + p + ", " + piece + ", " + b + ")", x -> x.from(p, piece, b));
            add("got(" + p + ", " + piece + ", " + b + ")", x -> x.got(p, piece, b));
        }
    }

    /** All answers behind a run, asked of as many new objects as the greatest number of calls makes needful. */
    int[] answersBehind(Run run) {
        int perObject = callsLeft(run, 0);
        int[] answers = new int[questions.size()];
        for (int first = 0; first < answers.length; first += perObject) {
            ask(run.made(), first, perObject, answers);
        }
        return answers;
    }

    /** As answersBehind, by the text of each call, such as "about(0, 2)". */
    Map<String, Integer> namedAnswersBehind(Run run) {
        int[] answers = answersBehind(run);
        Map<String, Integer> named = new HashMap<>();
        for (int i = 0; i < answers.length; i++) {
            named.put(names.get(i), answers[i]);
        }
        return named;
    }

    /** Behind a run a call gives its answer, and all that is asked of the same object before and behind it is alike. */
    void dueUnchanged(Checks checks, Run run, String name, ToIntFunction<PieceSwarm> call, int answer) {
        int perObject = callsLeft(run, 1) / 2;
        int[] before = new int[questions.size()];
        int[] behind = new int[questions.size()];
        for (int first = 0; first < before.length; first += perObject) {
            PieceSwarm asked = run.made();
            ask(asked, first, perObject, before);
            checks.due(name, call.applyAsInt(asked), answer);
            ask(asked, first, perObject, behind);
        }
        dueAlike(checks, "behind " + name, behind, before);
    }

    private static int callsLeft(Run run, int calls) {
        int left = Run.MOST_CALLS - run.length() - calls;
        if (left < 2) {
            throw new IllegalStateException("the run leaves no calls to look with");
        }
        return left;
    }

    private void ask(PieceSwarm asked, int first, int many, int[] answers) {
        for (int i = first; i < first + many && i < answers.length; i++) {
            answers[i] = questions.get(i).applyAsInt(asked);
        }
    }

    void dueAlike(Checks checks, String text, Run got, Run want) {
        dueAlike(checks, text, answersBehind(got), answersBehind(want));
    }

    void dueAlike(Checks checks, String text, int[] got, int[] want) {
        for (int i = 0; i < want.length; i++) {
            checks.due(text + ": " + names.get(i), got[i], want[i]);
        }
    }
}
