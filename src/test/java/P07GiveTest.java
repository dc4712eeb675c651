import java.util.Random;

/** Promise 7: inputs that come late take the stage back; what is refused, and in which order. */
public final class P07GiveTest {
    private static final String BOOK = ": start 2 new drop 3 new drop 6 new drop 4 new dup 50 swap x! drop ;"
            + " : t0 0 input 1 input 16 * + say ; : t2 0 input me vx! 1 input me vy! 3 dice say"
            + " 0 input 3 = if me mind none same if 3 ints me mind! end frame me mind 1 put end ;"
            + " : t6 0 input 5 = if me gone end 1 input 2 = if 3 new me pal! end 1 input me pal mind! ;"
            + " : h2 it mind me mind! 1 raise ;";

    private static void refusals() {
        Game stage = Play.on(2, BOOK);
        stage.give(0, 0, 1);
        stage.give(1, 0, 1);
        stage.advance(13);
        Play.check("frame", stage.count(0), 13);
        String before = Play.all(stage);
        int[][] none = {{-1, 1, 0}, {2, 1, 0}, {4, 1, 0}, {Integer.MIN_VALUE, 1, 0}, {Integer.MAX_VALUE, 1, 0},
            {0, 1, -1}, {0, 1, 256}, {0, 1, Integer.MIN_VALUE}, {0, -1, 0}, {0, Integer.MIN_VALUE, 0}, {0, 26, 0},
            {0, Integer.MAX_VALUE, 0}, {0, 0, 256}, {2, 0, 1}};
        for (int[] call : none) {
            Play.check("give " + call[0] + " " + call[1] + " " + call[2], stage.give(call[0], call[1], call[2]), -1);
        }
        Play.check("known", stage.give(0, 0, 1), -2);
        Play.check("known otherwise", stage.give(0, 0, 2), -2);
        Play.check("refused", Play.all(stage), before);
        Play.check("far ahead", stage.give(0, 25, 255), 0);
        Play.check("known", stage.give(0, 25, 0), -2);
        Play.check("still the same", stage.give(0, 1, 1), 0);
        Play.check("another", stage.give(0, 2, 0), 11);
        Play.check("back once", stage.count(6), 1);
        Play.check("frames run", stage.count(5), 24);
        Play.check("frame", stage.count(0), 13);
    }

    private static void dearOnes() {
        Game stage = Play.on(1, BOOK);
        int runs = 0;
        for (int book = 0; book < 5; book++) {
            Play.read(stage, BOOK);
            stage.advance(12);
            // Each input of a frame from 0 on differs from the one ahead: the stage goes back each time.
            for (int frame = 0; frame < 12 && stage.count(5) + 12 - frame <= 398; frame++) {
                Play.check("again", stage.give(0, frame, frame + 1), 12 - frame);
            }
            runs = stage.count(5);
        }
        Play.check("frames run", runs <= 398 ? 1 : 0, 1);
        int left = 400 - stage.count(5);
        Play.read(stage, BOOK);
        int ran = stage.advance(left - 1);
        Play.check("ran", ran, Math.min(12, left - 1));
        String before = Play.all(stage);
        if (ran > 1) {
            Play.check("too dear", stage.give(0, ran - 2, 9), -4);
            Play.check("refused", Play.all(stage), before);
        }
        Play.check("what needs none again may come", stage.give(0, ran - 1, 0), 0);
    }

    private static void lastFrames() {
        Game stage = new Game(1);
        for (int i = 0; i < 33; i++) {
            Play.read(stage, ": a ;");
            stage.advance(12);
        }
        Play.read(stage, ": a ;");
        stage.advance(2);
        Play.check("frames run", stage.count(5), 398);
        Play.check("two are left", stage.give(0, 0, 7), 2);
        Play.check("frames run", stage.count(5), 400);
        Play.check("none is left", stage.give(0, 1, 8), -4);
        Play.check("not known", stage.input(0, 1, true), 0);
        Play.check("the same needs none", stage.give(0, 1, 7), 0);
        Play.check("known", stage.input(0, 1, true), 1);
        Play.check("ahead needs none", stage.give(0, 2, 8), 0);
    }

    /** Whatever the order in which inputs come, the stage is as if all had been known ahead. */
    private static void orderDoesNotMatter(int seed) {
        Random chance = Play.chance(seed);
        int[][] bits = new int[2][20];
        Game early = Play.on(2, BOOK);
        Game late = Play.on(2, BOOK);
        int known = 0;
        for (int frame = 0; frame < 20; frame++) {
            for (int p = 0; p < 2; p++) {
                bits[p][frame] = chance.nextInt(3) == 0 ? chance.nextInt(7) : frame > 0 ? bits[p][frame - 1] : 0;
            }
        }
        for (int frame = 0; frame < 20; frame++) {
            for (int p = 0; p < 2; p++) {
                early.give(p, frame, bits[p][frame]);
            }
            early.advance(1);
        }
        boolean[][] given = new boolean[2][20];
        for (int round = 0; round < 400 && known < 40; round++) {
            int frame = Math.max(0, late.count(0) - 12 + chance.nextInt(13));
            int p = chance.nextInt(2);
            boolean tight = late.count(5) > 200;
            if (frame < 20 && !given[p][frame] && (!tight || frame <= late.count(0) - 12)) {
                int answer = late.give(p, frame, bits[p][frame]);
                Play.check("taken", answer >= 0 ? 1 : 0, 1);
                given[p][frame] = true;
                known++;
            }
            if (chance.nextInt(3) == 0 && late.count(0) < 20) {
                late.advance(1);
            }
            if (tight) {
                break;
            }
        }
        for (int frame = 0; frame < 20; frame++) {
            for (int p = 0; p < 2; p++) {
                if (!given[p][frame]) {
                    late.give(p, frame, bits[p][frame]);
                }
            }
        }
        late.advance(16);
        late.advance(20 - late.count(0) > 0 ? 20 - late.count(0) : 1);
        while (early.count(0) < late.count(0)) {
            early.advance(1);
        }
        Play.check("seed " + seed, Play.scene(late), Play.scene(early));
    }

    public static void main(String[] args) {
        refusals();
        dearOnes();
        lastFrames();
        for (int seed = 0; seed < 200; seed++) {
            orderDoesNotMatter(seed);
        }
        Play.finish();
    }
}
