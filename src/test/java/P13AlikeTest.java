/** Promise 13: whether two parts are one thing, as by same. */
public final class P13AlikeTest {
    private static void alike(String book, int want) {
        Game stage = Play.on(1, ": start 0 new drop 0 new drop " + book + " ;");
        Play.check(book, stage.alike(0, 0, 1, 1) ? 1 : 0, want);
        Play.check(book + " turned", stage.alike(1, 1, 0, 0) ? 1 : 0, want);
        stage.advance(2);
        Play.check(book + " later", stage.alike(0, 0, 1, 1) ? 1 : 0, want);
    }

    private static void both(String one, String other, int want) {
        alike(one + " 0 nth mind! " + other + " 1 nth pal!", want);
    }

    public static void main(String[] args) {
        both("3 ints", "3 ints", 0);
        alike("3 ints dup 0 nth mind! 1 nth pal!", 1);
        alike("3 ints dup 0 nth mind! twin 1 nth pal!", 0);
        both("0 nth", "0 nth", 1);
        both("0 nth", "1 nth", 0);
        both("7", "7", 1);
        both("7", "8", 0);
        both("7", "7.0", 0);
        both("0.0", "-0.0", 0);
        both("0.0", "0", 0);
        both("0.0 0.0 /", "-1 unbits", 1);
        both("none", "none", 1);
        both("none", "0", 0);
        both("0", "0 nth", 0);
        alike("try 1 raise catch dup 0 nth mind! 1 nth pal! end", 1);
        alike("try 1 raise catch 0 nth mind! end try 1 raise catch 1 nth pal! end", 0);
        alike("try 1 raise catch 0 nth mind! end try 0 nth mind raise catch 1 nth pal! end", 1);

        Game stage = Play.on(1, ": start 0 new dup 2 flags swap marks! dup marks swap mind! ;");
        Play.check("mind and marks", stage.alike(0, 0, 0, 2) ? 1 : 0, 1);
        Play.check("with itself", stage.alike(0, 2, 0, 2) ? 1 : 0, 1);
        String before = Play.all(stage);
        int[][] wrong = {{1, 0, 1, 0}, {0, 1, 1, 0}, {-1, 0, -1, 0}, {0, 6, 0, 6}, {0, -1, 0, -1}, {0, 2, 0, 6},
            {Integer.MAX_VALUE, 0, Integer.MAX_VALUE, 0}, {0, Integer.MIN_VALUE, 0, Integer.MIN_VALUE}};
        for (int[] call : wrong) {
            Play.check("none such", stage.alike(call[0], call[1], call[2], call[3]) ? 1 : 0, 0);
        }
        Play.check("nothing changed", Play.all(stage), before);
        Play.finish();
    }
}
