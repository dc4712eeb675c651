/** Promise 11: what an actor's parts are. */
public final class P11HeldTest {
    private static void held(Game stage, int a, int part, int sort, int number, int extra) {
        String name = "held(" + a + ", " + part + ", ";
        Play.check(name + "0)", stage.held(a, part, 0), sort);
        Play.check(name + "1)", stage.held(a, part, 1), number);
        Play.check(name + "2)", stage.held(a, part, 2), extra);
    }

    private static void mind(String value, int sort, int number, int extra) {
        Game stage = Play.on(1, ": start 0 new drop 3 new drop " + value + " 0 nth mind! ;");
        held(stage, 0, 0, sort, number, extra);
        stage.advance(3);
        held(stage, 0, 0, sort, number, extra);
        held(stage, 0, 1, 0, 0, 0);
    }

    public static void main(String[] args) {
        mind("none", 0, 0, 0);
        mind("7", 1, 7, 0);
        mind("-1", 1, -1, 0);
        mind("-1.5", 2, Float.floatToIntBits(-1.5f), 0);
        mind("3 ints", 3, 3, 0);
        mind("12 reals", 4, 12, 0);
        mind("0 flags", 5, 0, 0);
        mind("1 smalls", 6, 1, 0);
        mind("2 signs", 7, 2, 0);
        mind("4 5 crew", 8, 4, 5);
        mind("0 0 crew", 8, 0, 0);
        mind("1 nth", 9, 1, 0);
        mind("0 nth", 9, 0, 0);
        mind("try -5 raise catch end", 10, 9, -5);
        mind("try none len catch end", 10, 1, 0);
        mind("try 5 0 / catch end", 10, 6, 0);

        Game stage = Play.on(1, ": start 2 new dup 3 flags swap marks! dup 4 signs swap name!"
                + " dup 5 smalls swap wear! dup 6 reals swap way! dup dup pal! gone ;");
        stage.advance(1);
        Play.check("left", stage.actor(0, 1), RewindStage.NONE);
        held(stage, 0, 0, 0, 0, 0);
        held(stage, 0, 1, 9, 0, 0);
        held(stage, 0, 2, 5, 3, 0);
        held(stage, 0, 3, 7, 4, 0);
        held(stage, 0, 4, 6, 5, 0);
        held(stage, 0, 5, 4, 6, 0);
        String before = Play.all(stage);
        int[][] wrong = {{1, 0, 0}, {-1, 0, 0}, {0, 6, 0}, {0, -1, 0}, {0, 0, 3}, {0, 0, -1}, {32, 0, 0},
            {Integer.MIN_VALUE, 0, 0}, {Integer.MAX_VALUE, 0, 0}, {0, Integer.MAX_VALUE, 0}, {0, 0, Integer.MAX_VALUE}};
        for (int[] call : wrong) {
            Play.check("none such", stage.held(call[0], call[1], call[2]), RewindStage.NONE);
        }
        Play.check("nothing changed", Play.all(stage), before);
        Play.finish();
    }
}
