/** Promise 10: what the actors are, also those that left. */
public final class P10ActorTest {
    public static void main(String[] args) {
        Game stage = Play.on(1, ": start 0 new drop 2 new dup 1.5 swap x! dup -2 swap y! dup 0.25 swap vx!"
                + " -0.0 swap vy! 5 new drop 6 new gone 1 new drop ; : t1 1 raise ; : t5 none x ;");
        int[] kinds = {0, 2, 5, 6, 1};
        for (int a = 0; a < kinds.length; a++) {
            Play.check("kind of " + a, stage.actor(a, 0), kinds[a]);
            Play.check("place of " + a, stage.actor(a, 1), a);
            Play.check("hurts of " + a, stage.actor(a, 2), 0);
        }
        Play.check("x", stage.actor(1, 3), Float.floatToIntBits(1.5f));
        Play.check("y", stage.actor(1, 4), Float.floatToIntBits(-2f));
        Play.check("vx", stage.actor(1, 5), Float.floatToIntBits(0.25f));
        Play.check("vy", stage.actor(1, 6), Float.floatToIntBits(-0f));
        for (int what = 3; what < 7; what++) {
            Play.check("no body", stage.actor(0, what), 0);
            Play.check("no body", stage.actor(4, what), 0);
        }
        stage.advance(2);
        int[] places = {0, 1, 2, -1, 3};
        int[] hurts = {0, 0, 2, 0, 2};
        for (int a = 0; a < kinds.length; a++) {
            Play.check("kind of " + a, stage.actor(a, 0), kinds[a]);
            Play.check("place of " + a, stage.actor(a, 1), places[a]);
            Play.check("hurts of " + a, stage.actor(a, 2), hurts[a]);
        }
        String before = Play.all(stage);
        int[][] wrong = {{5, 0}, {-1, 0}, {0, 7}, {0, -1}, {32, 0}, {Integer.MIN_VALUE, 0}, {Integer.MAX_VALUE, 0},
            {0, Integer.MIN_VALUE}, {0, Integer.MAX_VALUE}, {5, 3}};
        for (int[] call : wrong) {
            Play.check("none such", stage.actor(call[0], call[1]), RewindStage.NONE);
        }
        Play.check("nothing changed", Play.all(stage), before);
        Game bits = Play.on(1, ": start 2 new dup -1 unbits swap x! dup -8388608 unbits swap y! drop ;");
        Play.check("NAN has its own bits", bits.actor(0, 3), 2143289344);
        Play.check("below infinity", bits.actor(0, 4), -8388608);
        Play.finish();
    }
}
