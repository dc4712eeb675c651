import java.util.ArrayList;
import java.util.List;

/**
 * A stage with the face of the class, held to what the document promises: an object is used for 512 calls at
 * most. When they are used up, a new object is taken to where the old one was by the calls that change it, so
 * that a test may ask as much as it likes.
 */
final class Game {
    static final int MOST_CALLS = 512;

    private static final int FEED = 0;
    private static final int END = 1;
    private static final int BOOK = 2;
    private static final int FAULT = 3;
    private static final int ADVANCE = 4;
    private static final int GIVE = 5;
    private static final int INPUT = 6;
    private static final int COUNT = 7;
    private static final int ACTOR = 8;
    private static final int HELD = 9;
    private static final int ELEMENT = 10;
    private static final int ALIKE = 11;
    private static final int OUTPUT = 12;

    private final int players;
    private final List<int[]> kept = new ArrayList<>();
    private final List<Integer> answers = new ArrayList<>();
    private RewindStage stage;
    private int used;
    private boolean keepsQuestions;

    Game(int players) {
        this.players = players;
        stage = new RewindStage(players);
    }

    /** From now on what is asked is done again, too: for tests that asking changes nothing. */
    void keepQuestions(boolean keeps) {
        keepsQuestions = keeps;
    }

    /** How many calls the object at hand may still be used for. */
    int left() {
        return MOST_CALLS - used;
    }

    int feed(int a, int b, int c, int d, int e) {
        return change(FEED, a, b, c, d, e);
    }

    int end(int n) {
        return change(END, n);
    }

    int book() {
        return change(BOOK);
    }

    int fault(int what) {
        return ask(FAULT, what);
    }

    int advance(int n) {
        return change(ADVANCE, n);
    }

    int give(int p, int frame, int bits) {
        return change(GIVE, p, frame, bits);
    }

    int input(int p, int frame, boolean known) {
        return ask(INPUT, p, frame, known ? 1 : 0);
    }

    int count(int what) {
        return ask(COUNT, what);
    }

    int actor(int a, int what) {
        return ask(ACTOR, a, what);
    }

    int held(int a, int part, int what) {
        return ask(HELD, a, part, what);
    }

    int element(int a, int part, int i) {
        return ask(ELEMENT, a, part, i);
    }

    boolean alike(int a, int part, int b, int other) {
        return ask(ALIKE, a, part, b, other) == 1;
    }

    int output(int i, int what) {
        return ask(OUTPUT, i, what);
    }

    private int change(int... call) {
        makeRoom();
        used++;
        int answer = answer(stage, call);
        kept.add(call);
        answers.add(answer);
        return answer;
    }

    private int ask(int... call) {
        makeRoom();
        if (keepsQuestions) {
            kept.add(call);
            answers.add(null);
        }
        used++;
        return answer(stage, call);
    }

    private void makeRoom() {
        if (used < MOST_CALLS) {
            return;
        }
        if (kept.size() >= MOST_CALLS) {
            throw new IllegalStateException("a test that needs more than " + MOST_CALLS + " calls on one object");
        }
        stage = new RewindStage(players);
        for (int i = 0; i < kept.size(); i++) {
            again(kept.get(i), answers.get(i));
        }
        used = kept.size();
    }

    private void again(int[] call, Integer want) {
        try {
            int got = answer(stage, call);
            if (want != null && got != want) {
                Play.check("call " + call[0] + " of a new object, as of the old one", got, want);
            }
        } catch (IndexOutOfBoundsException none) {
            // An element that was not there is not there again.
        }
    }

    private static int answer(RewindStage stage, int[] call) {
        switch (call[0]) {
            case FEED:
                return stage.feed(call[1], call[2], call[3], call[4], call[5]);
            case END:
                return stage.end(call[1]);
            case BOOK:
                return stage.book();
            case FAULT:
                return stage.fault(call[1]);
            case ADVANCE:
                return stage.advance(call[1]);
            case GIVE:
                return stage.give(call[1], call[2], call[3]);
            case INPUT:
                return stage.input(call[1], call[2], call[3] == 1);
            case COUNT:
                return stage.count(call[1]);
            case ACTOR:
                return stage.actor(call[1], call[2]);
            case HELD:
                return stage.held(call[1], call[2], call[3]);
            case ELEMENT:
                return stage.element(call[1], call[2], call[3]);
            case ALIKE:
                return stage.alike(call[1], call[2], call[3], call[4]) ? 1 : 0;
            default:
                return stage.output(call[1], call[2]);
        }
    }
}
