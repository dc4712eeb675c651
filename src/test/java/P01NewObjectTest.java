/** Promise 1: so many players, the nearest of 1 .. 4; an empty book; frame 0. */
public final class P01NewObjectTest {
    private static int players(Game stage) {
        int players = 0;
        for (int p = 0; p < 10; p++) {
            players += stage.input(p, 0, true) == 0 ? 1 : 0;
        }
        return players;
    }

    public static void main(String[] args) {
        int[] told = {1, 2, 3, 4, 0, -1, 5, 100, Integer.MIN_VALUE, Integer.MAX_VALUE};
        int[] want = {1, 2, 3, 4, 1, 1, 4, 4, 1, 4};
        for (int i = 0; i < told.length; i++) {
            Play.check("players of " + told[i], players(new Game(told[i])), want[i]);
        }
        Game stage = new Game(2);
        int[] counts = {0, 0, 0, 0, 0, 0, 0, 0, 1, 500};
        for (int what = 0; what < counts.length; what++) {
            Play.check("count(" + what + ")", stage.count(what), counts[what]);
        }
        Play.check("fault", stage.fault(0), RewindStage.NONE);
        Play.check("actor", stage.actor(0, 0), RewindStage.NONE);
        Play.check("output", stage.output(0, 0), RewindStage.NONE);
        Play.check("advance of an empty book", stage.advance(3), 3);
        Play.check("frame", stage.count(0), 3);
        Play.check("NONE", RewindStage.NONE, -1);
        Play.finish();
    }
}
