/** Promise 6: up to n frames, and what holds them: an input that is missing, frame 120, 400 frames run. */
public final class P06AdvanceTest {
    private static void wrongNumbers() {
        Game stage = Play.on(1, ": start 2 new drop ; : t0 frame say ;");
        String before = Play.all(stage);
        int[] wrong = {0, -1, 17, Integer.MIN_VALUE, Integer.MAX_VALUE};
        for (int n : wrong) {
            Play.check("advance(" + n + ")", stage.advance(n), RewindStage.NONE);
        }
        Play.check("refused", Play.all(stage), before);
        Play.check("advance(1)", stage.advance(1), 1);
        Play.check("advance(16)", stage.advance(16), 11);
    }

    private static void waitsForInputs() {
        Game stage = new Game(2);
        Play.check("up to frame 12", stage.advance(16), 12);
        Play.check("frame", stage.count(0), 12);
        Play.check("waits", stage.advance(1), 0);
        stage.give(0, 0, 0);
        Play.check("waits for the other", stage.advance(1), 0);
        stage.give(1, 0, 0);
        Play.check("one more", stage.advance(5), 1);
        stage.give(0, 1, 0);
        stage.give(1, 2, 0);
        Play.check("waits", stage.advance(5), 0);
        stage.give(0, 2, 0);
        stage.give(1, 1, 0);
        Play.check("two more", stage.advance(5), 2);
        Play.check("frames run", stage.count(5), 15);
    }

    private static void stopsAt120() {
        Game stage = new Game(1);
        int ran = 0;
        int next = 0;
        for (int i = 0; i < 11; i++) {
            for (int last = stage.count(0) + 12; next <= last; next++) {
                Play.check("give " + next, stage.give(0, next, 1), 0);
            }
            ran += stage.advance(12);
        }
        Play.check("frames", ran, 120);
        Play.check("frame", stage.count(0), 120);
        Play.check("no more", stage.advance(16), 0);
        Play.check("input of frame 132", stage.give(0, 132, 1), -2);
        Play.check("input of frame 133", stage.give(0, 133, 1), RewindStage.NONE);
    }

    private static void stopsAt400() {
        Game stage = new Game(1);
        int ran = 0;
        for (int i = 0; i < 33; i++) {
            Play.read(stage, ": a ;");
            ran += stage.advance(12);
        }
        Play.check("frames", ran, 396);
        Play.read(stage, ": a ;");
        Play.check("the last four", stage.advance(12), 4);
        Play.check("frames run", stage.count(5), 400);
        Play.check("no more", stage.advance(1), 0);
        Play.read(stage, ": a ;");
        Play.check("not with a new book either", stage.advance(1), 0);
        Play.check("frame", stage.count(0), 0);
    }

    public static void main(String[] args) {
        wrongNumbers();
        waitsForInputs();
        stopsAt120();
        stopsAt400();
        Play.finish();
    }
}
