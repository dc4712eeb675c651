/** Promise 4: the tape is read; how many definitions; the start; what stays with a fault; sixty at most. */
public final class P04BookTest {
    private static void startsAnew() {
        Game stage = Play.on(2, ": start 2 new drop 5 dice say ; : t0 frame say ;");
        stage.give(0, 0, 9);
        stage.give(1, 3, 7);
        stage.advance(4);
        stage.give(1, 1, 7);
        Play.check("went back", stage.count(6), 1);
        int runs = stage.count(5);
        Play.check("second book", Play.read(stage, ": a ; : b ; : start 1 new drop ;"), 3);
        int[] want = {0, 3, 1, 1, 0, runs, 1, 0, 1, 497};
        for (int what = 0; what < want.length; what++) {
            Play.check("count(" + what + ")", stage.count(what), want[what]);
        }
        for (int p = 0; p < 2; p++) {
            for (int frame = 0; frame < 8; frame++) {
                Play.check("forgotten", stage.input(p, frame, true), 0);
                Play.check("forgotten", stage.input(p, frame, false), 0);
            }
        }
        Play.check("the new actor", stage.actor(0, 0), 1);
        Play.check("give anew", stage.give(0, 0, 3), 0);
    }

    private static void faultLeavesAll() {
        Game stage = Play.on(2, ": start 2 new drop 5 say ; : t0 frame say 0 input say ;");
        stage.give(0, 0, 9);
        stage.give(0, 1, 8);
        stage.advance(3);
        String before = Play.all(stage).replaceFirst("\nfault .*", "");
        String[] wrong = {"", ":", ": a", ": a 1", "a", ": a if ;", ": a b ;", ": a ; : a ;"};
        for (String text : wrong) {
            Play.check("book of " + text, Play.read(stage, text), RewindStage.NONE);
            Play.check("tape used up", stage.count(7), 0);
            Play.check("all stays with " + text, Play.all(stage).replaceFirst("\nfault .*", ""), before);
        }
        Play.check("goes on", stage.advance(1), 1);
        Play.check("said by the old book", Play.said(stage, stage.count(4) - 2), "3:1:3 3:1:8");
        Play.check("and back", stage.give(0, 2, 1), 2);
    }

    private static void sixtyAtMost() {
        Game stage = new Game(1);
        for (int i = 0; i < 60; i++) {
            boolean good = i % 3 > 0;
            Play.check("book " + i, Play.read(stage, good ? ": start 4 say ;" : ": start 4 say"), good ? 1 : -1);
        }
        stage.advance(2);
        String before = Play.all(stage);
        Play.tape(stage, ": start 5 say ; : b ;");
        Play.check("book 61", stage.book(), -2);
        Play.check("the tape is empty then", Play.all(stage), before);
        Play.check("book 62", stage.book(), -2);
        Play.check("frames go on", stage.advance(1), 1);
    }

    public static void main(String[] args) {
        StringBuilder forty = new StringBuilder();
        for (int i = 1; i <= 40; i++) {
            forty.append(" : n").append(i).append(" ;");
            Game stage = new Game(1);
            Play.check("definitions", Play.read(stage, forty.toString()), i);
            Play.check("definitions", stage.count(1), i);
        }
        startsAnew();
        faultLeavesAll();
        sixtyAtMost();
        Play.finish();
    }
}
