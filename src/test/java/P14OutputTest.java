/** Promise 14: what was said, 200 at most. */
public final class P14OutputTest {
    public static void main(String[] args) {
        Game stage = Play.on(1, ": start 0 new drop none say 7 say -1 say 1.5 say 2 ints say 3 reals say 4 flags say"
                + " 5 smalls say 6 signs say 7 1 crew say 0 nth say try 3 raise catch say end ; : t0 frame say none x ;");
        String start = "0:0:0 0:1:7 0:1:-1 0:2:" + Float.floatToIntBits(1.5f)
                + " 0:3:2 0:4:3 0:5:4 0:6:5 0:7:6 0:8:7 0:9:0 0:10:9";
        Play.check("start", Play.said(stage), start);
        stage.advance(2);
        Play.check("ticks", Play.said(stage, 12), "0:1:0 0:10:1 1:1:1 1:10:1");
        String before = Play.all(stage);
        int[][] wrong = {{-1, 0}, {16, 0}, {200, 0}, {0, 3}, {0, -1}, {Integer.MIN_VALUE, 0}, {Integer.MAX_VALUE, 0},
            {0, Integer.MIN_VALUE}, {0, Integer.MAX_VALUE}};
        for (int[] call : wrong) {
            Play.check("none such", stage.output(call[0], call[1]), RewindStage.NONE);
        }
        Play.check("nothing changed", Play.all(stage), before);

        Game full = Play.on(1, ": start 0 new drop 70 while dup do dup say 1 - end drop ;"
                + " : t0 150 while dup do dup say 1 - end raise ;");
        Play.check("said in start", full.count(4), 70);
        full.advance(1);
        Play.check("83 more until the fuel is out, and that", full.count(4), 154);
        full.advance(2);
        Play.check("what is more is lost", full.count(4), 200);
        Play.check("the last", full.output(199, 0), 1);
        Play.check("none behind", full.output(200, 0), RewindStage.NONE);
        String last = Play.said(full, 190);
        full.give(0, 0, 1);
        Play.check("said again, the same", Play.said(full, 190), last);
        Play.check("went back", full.count(6), 1);
        Play.finish();
    }
}
