/** Promise 12: what is at a row's places; IndexOutOfBoundsException where there is no such one. */
public final class P12ElementTest {
    private static void none(Game stage, int a, int part, int i) {
        int thrown = 0;
        try {
            stage.element(a, part, i);
        } catch (RuntimeException it) {
            thrown = it.getClass() == IndexOutOfBoundsException.class ? 1 : 2;
        }
        Play.check("element(" + a + ", " + part + ", " + i + ") throws", thrown, 1);
    }

    private static void row(String making, int... want) {
        Game stage = Play.on(1, ": start 3 new drop 2 new drop " + making + " 0 nth mind! ;");
        for (int i = 0; i < want.length; i++) {
            Play.check(making + " at " + i, stage.element(0, 0, i), want[i]);
        }
        none(stage, 0, 0, want.length);
        none(stage, 0, 0, -1);
    }

    public static void main(String[] args) {
        row("3 ints 7 over 1 put -1 over 2 put", 0, 7, -1);
        row("3 reals 7 over 1 put -1.5 over 2 put", 0, Float.floatToIntBits(7), Float.floatToIntBits(-1.5f));
        row("4 flags 7 over 1 put -1 over 2 put 0 over 3 put", 0, 1, 1, 0);
        row("4 smalls 32767 over 0 put 32768 over 1 put -32769 over 2 put 65537 over 3 put", 32767, -32768, 32767, 1);
        row("4 signs 65535 over 0 put 65536 over 1 put -1 over 2 put 40000 over 3 put", 65535, 0, 65535, 40000);
        row("3 2 crew 0 nth over 0 put 1 nth over 2 put", 0, -1, 1);
        row("0 ints");
        row("12 ints 5 over 11 put", 0, 0, 0, 0, 0, 0, 0, 0, 0, 0, 0, 5);

        Game stage = Play.on(1, ": start 0 new dup 2 flags swap marks! dup 3 signs swap name! 7 swap pal! ;");
        Play.check("mark", stage.element(0, 2, 1), 0);
        String before = Play.all(stage);
        int[][] wrong = {{1, 2, 0}, {-1, 2, 0}, {0, 2, 2}, {0, 0, 0}, {0, 1, 0}, {0, 4, 0}, {0, 6, 0}, {0, -1, 0},
            {Integer.MAX_VALUE, 2, 0}, {Integer.MIN_VALUE, 2, 0}, {0, Integer.MAX_VALUE, 0}, {0, 2, Integer.MAX_VALUE},
            {0, 2, Integer.MIN_VALUE}, {0, 3, 3}};
        for (int[] call : wrong) {
            none(stage, call[0], call[1], call[2]);
        }
        Play.check("nothing changed", Play.all(stage), before);
        Game others = Play.on(1, ": start 0 new try 3 raise catch over mind! end 0 nth dup pal! ;");
        none(others, 0, 0, 0);
        none(others, 0, 1, 0);
        Play.finish();
    }
}
