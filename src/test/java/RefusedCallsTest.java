import java.util.ArrayList;
import java.util.List;

/**
 * "A call that is refused changes nothing": two stages play the same game, one of them with every sort of
 * refused call behind each step; all that they answer stays the same, also later, when what was kept shows.
 */
public final class RefusedCallsTest {
    private static final String BOOK = ": start 2 new drop 6 new drop 3 ints 0 nth mind! ; : t2 0 input me vx! frame me mind"
            + " none same if else me mind 0 put end 1 input 3 = if me gone end 7 dice say ; : h2 1 raise ;";
    private static final int[] FAR = {Integer.MIN_VALUE, Integer.MAX_VALUE};

    private final Game plain = new Game(2);
    private final Game bothered = new Game(2);
    private final List<int[]> given = new ArrayList<>();
    private int steps;

    private static void refuse(String call, int got, int want) {
        Edge.check(call, got, want);
    }

    private void refuseChanges() {
        int frame = bothered.count(0);
        int bytes = bothered.count(7);
        refuse("end", bothered.end(-1 - steps), Edge.NONE);
        refuse("end", bothered.end(bytes + 1), Edge.NONE);
        refuse("advance", bothered.advance(0), Edge.NONE);
        refuse("advance", bothered.advance(17), Edge.NONE);
        refuse("give", bothered.give(2, frame, 1), Edge.NONE);
        refuse("give", bothered.give(-1, frame, 1), Edge.NONE);
        refuse("give", bothered.give(0, frame, 256), Edge.NONE);
        refuse("give", bothered.give(0, frame, -1), Edge.NONE);
        refuse("give", bothered.give(0, frame + 13, 1), Edge.NONE);
        refuse("give", bothered.give(0, -1, 1), Edge.NONE);
        for (int[] known : given.subList(Math.max(0, given.size() - 3), given.size())) {
            refuse("give what is known", bothered.give(known[0], known[1], known[2] ^ 1), -2);
        }
        if (bytes > 3980) {
            refuse("feed", bothered.feed(1, 2, 3, 4, 5), Edge.NONE);
        }
    }

    private void refuseQuestions() {
        int far = FAR[steps % 2];
        bothered.keepQuestions(true);
        refuse("fault", bothered.fault(far), Edge.NONE);
        refuse("input", bothered.input(far, 0, true), Edge.NONE);
        refuse("input", bothered.input(0, 141, false), Edge.NONE);
        refuse("count", bothered.count(far), Edge.NONE);
        refuse("actor", bothered.actor(far, 0), Edge.NONE);
        refuse("held", bothered.held(0, far, 0), Edge.NONE);
        refuse("element", Edge.throwsIndex(bothered, 0, 0, far) ? 1 : 0, 1);
        refuse("alike", bothered.alike(far, 0, far, 0) ? 1 : 0, 0);
        refuse("output", bothered.output(far, 0), Edge.NONE);
        bothered.keepQuestions(false);
    }

    private void step(String what, int one, int other) {
        Edge.check(what + " with refused calls between", other, one);
        refuseChanges();
        refuseQuestions();
        steps++;
        Edge.check("all behind " + what, Play.all(bothered), Play.all(plain));
    }

    private void give(int p, int frame, int bits) {
        int answer = plain.give(p, frame, bits);
        int other = bothered.give(p, frame, bits);
        given.add(new int[] {p, frame, bits});
        step("give", answer, other);
    }

    private void advance(int n) {
        step("advance", plain.advance(n), bothered.advance(n));
    }

    private void play() {
        step("book", Play.read(plain, BOOK), Play.read(bothered, BOOK));
        advance(2);
        give(0, 0, 3);
        advance(3);
        give(1, 2, 1);
        give(0, 3, 5);
        advance(7);
        give(1, 0, 0);
        give(1, 1, 3);
        give(0, 12, 4);
        step("book with a fault", Play.read(plain, ": a"), Play.read(bothered, ": a"));
        advance(16);
        give(0, 1, 0);
        advance(16);
    }

    public static void main(String[] args) {
        Edge.sentence("A call that is refused changes nothing");
        new RefusedCallsTest().play();
        Play.finish();
    }
}
