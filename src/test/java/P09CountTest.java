/** Promise 9: the counts. */
public final class P09CountTest {
    public static void main(String[] args) {
        Game stage = Play.on(2, ": start 2 new drop 0 new gone 9 say 6 dice drop ; : t2 0 input say ; : a ;");
        int[] atStart = {0, 3, 2, 2, 1, 0, 0, 0, 1103527590, 489};
        for (int what = 0; what < atStart.length; what++) {
            Play.check("count(" + what + ") at start", stage.count(what), atStart[what]);
        }
        Play.check("ran", stage.advance(3), 3);
        stage.feed(1, 2, 3, 4, 5);
        Play.check("again", stage.give(0, 1, 5), 2);
        int[] later = {3, 3, 1, 2, 4, 5, 1, 20, 1103527590, 497};
        for (int what = 0; what < later.length; what++) {
            Play.check("count(" + what + ") later", stage.count(what), later[what]);
        }
        String before = Play.all(stage);
        int[] others = {-1, 10, 11, Integer.MIN_VALUE, Integer.MAX_VALUE};
        for (int what : others) {
            Play.check("count(" + what + ")", stage.count(what), RewindStage.NONE);
        }
        Play.check("nothing changed", Play.all(stage), before);

        Game dry = Play.on(1, ": start while 1 do end ;");
        Play.check("no fuel left", dry.count(9), 0);
        Play.check("a frame has its own", dry.advance(1), 1);
        Play.check("all fuel left", dry.count(9), 500);
        Play.finish();
    }
}
