/** Promise 8: what a player is taken to do in a frame 0 .. 140, and whether that is known. */
public final class P08InputTest {
    private static void inputs(Game stage, int p, int[] want) {
        for (int frame = 0; frame < want.length; frame++) {
            Play.check("input " + p + " of " + frame, stage.input(p, frame, false), want[frame]);
        }
        Play.check("at last", stage.input(p, 140, false), want[want.length - 1]);
    }

    public static void main(String[] args) {
        Game stage = new Game(3);
        inputs(stage, 0, new int[] {0, 0, 0});
        stage.give(0, 2, 7);
        stage.give(0, 5, 255);
        stage.give(1, 3, 0);
        stage.give(1, 1, 4);
        inputs(stage, 0, new int[] {0, 0, 7, 7, 7, 255, 255});
        inputs(stage, 1, new int[] {0, 4, 4, 0, 0, 0, 0});
        inputs(stage, 2, new int[] {0, 0, 0});
        int[] known = {0, 0, 1, 0, 0, 1, 0};
        for (int frame = 0; frame < known.length; frame++) {
            Play.check("known " + frame, stage.input(0, frame, true), known[frame]);
        }
        stage.give(0, 3, 9);
        inputs(stage, 0, new int[] {0, 0, 7, 9, 9, 255, 255});

        String before = Play.all(stage);
        int[][] wrong = {{-1, 0}, {3, 0}, {4, 0}, {0, -1}, {0, 141}, {Integer.MAX_VALUE, 0}, {0, Integer.MAX_VALUE},
            {Integer.MIN_VALUE, 0}, {0, Integer.MIN_VALUE}};
        for (int[] call : wrong) {
            Play.check("none such", stage.input(call[0], call[1], false), RewindStage.NONE);
            Play.check("none such", stage.input(call[0], call[1], true), RewindStage.NONE);
        }
        Play.check("nothing changed", Play.all(stage), before);
        Play.check("frame 140", stage.input(2, 140, true), 0);
        Play.check("frame 0", stage.input(2, 0, true), 0);

        // What the scripts see is the same: the latest known one, in start 0.
        Game seen = Play.on(2, ": start 0 new drop 0 input say 1 input say ; : t0 0 input say 1 input say ;");
        Play.check("start", Play.said(seen), "0:1:0 0:1:0");
        seen.give(0, 0, 3);
        seen.give(1, 1, 200);
        seen.advance(3);
        Play.check("ticks", Play.said(seen, 2), "0:1:3 0:1:0 1:1:3 1:1:200 2:1:3 2:1:200");
        Play.finish();
    }
}
