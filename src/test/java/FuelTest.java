/** Part III: what words cost, and what happens when there is no more. */
public final class FuelTest {
    private static String repeat(String text, int times) {
        StringBuilder all = new StringBuilder();
        for (int i = 0; i < times; i++) {
            all.append(text);
        }
        return all.toString();
    }

    private static void costs(String body, int cost) {
        Play.check(body, 500 - Play.on(2, ": start " + body + " ; : a ; : b leave ;").count(9), cost);
    }

    /** The same body with so much fuel left ahead of it: what is said, and what is left. */
    private static void with(int fuel, String body, String said, int left) {
        int burnt = 500 - fuel;
        boolean odd = burnt % 2 == 1;
        String book = ": start" + (odd ? " 0 neg drop" : "") + repeat(" 0 drop", (odd ? burnt - 3 : burnt) / 2)
                + " " + body + " ;";
        Game stage = Play.on(1, book);
        Play.check(fuel + " for " + body, Play.said(stage), said);
        Play.check("left of " + fuel + " for " + body, stage.count(9), left);
    }

    private static void prices() {
        costs("", 0);
        costs("1", 1);
        costs("1.5 drop", 2);
        costs("a", 1);
        costs("a a b", 4);
        costs("1 if end", 2);
        costs("1 if 5 else 6 7 end", 3);
        costs("0 if 5 else 6 7 end", 4);
        costs("while 0 do end", 2);
        costs("2 while dup do 1 - end", 1 + 3 * 2 + 2 * 2);
        costs("try catch end", 1);
        costs("try always end", 1);
        costs("try 1 always 2 end", 3);
        costs("leave 1 2", 1);
        costs("1 raise", 42);
        costs("try 1 raise catch end", 43);
        costs("try 1 raise catch raise end", 84);
        costs("try try 1 raise always 2 end catch end", 45);
        costs("drop", 41);
        costs("try drop catch drop end", 43);
        costs("0 ints", 2);
        costs("12 ints", 14);
        costs("5 reals", 7);
        costs("5 flags", 7);
        costs("5 smalls", 7);
        costs("5 signs", 7);
        costs("5 0 crew", 8);
        costs("13 ints", 42);
        costs("13 0 crew", 43);
        costs("12 7 crew", 43);
        costs("5 ints twin", 13);
        costs("0 ints twin", 3);
        costs("3 ints dup 0 swap 0 2 copy", 4 + 1 + 6 + 2);
        costs("3 ints dup 0 swap 0 0 copy", 4 + 1 + 6);
        costs("none 0 none 0 5 copy", 6 + 5 + 40);
        costs("none 0 none 0 1 copy", 6 + 1 + 40);
        costs("none 0 none 0 0 copy", 6 + 40);
        costs("none 0 none 0 12 copy", 6 + 12 + 40);
        costs("none 0 none 0 13 copy", 6 + 40);
        costs("none 0 none 0 -1 copy", 6 + 40);
        costs("none 0 none 0 1.0 copy", 6 + 40);
        costs("3 ints 9 3 ints 0 2 copy", 5 + 1 + 5 + 2 + 1 + 2 + 40);
        costs("none say", 2);
        costs("6 dice", 2);
    }

    private static void ends() {
        with(2, "7 say", "0:1:7", 0);
        with(1, "7 say", "0:11:0", 0);
        with(0, "7 say", "0:11:0", 0);
        with(0, "", "", 0);
        with(0, "try 1 catch 2 end", "0:11:0", 0);
        // A word that costs more pays for itself first; what is then left stays.
        with(6, "5 ints", "0:11:0", 4);
        with(7, "5 ints", "", 0);
        with(40, "13 ints", "0:11:0", 38);
        with(42, "13 ints", "0:10:3", 0);
        with(12, "5 ints twin", "0:11:0", 4);
        with(13, "5 ints twin say", "0:11:0", 0);
        with(10, "none 0 none 0 5 copy", "0:11:0", 4);
        with(50, "none 0 none 0 5 copy", "0:11:0", 39);
        with(51, "none 0 none 0 5 copy", "0:10:1", 0);
        // A fault that can't be paid is none: nothing catches it, no always-part is done.
        with(42, "try drop catch 7 say end", "0:11:0", 0);
        with(41, "try drop catch 7 say end", "0:11:0", 39);
        with(40, "try drop catch 7 say end", "0:11:0", 38);
        with(43, "try drop catch drop always 7 say end", "0:11:0", 0);
        with(44, "try drop catch always 7 say end", "0:1:7", 0);
        with(30, "try 1 raise always 7 say end", "0:11:0", 27);
        with(82, "try 1 raise catch raise end", "0:11:0", 38);
        with(84, "try 1 raise catch raise end", "0:10:9", 0);
        with(4, "try 1 2 3 always 7 say end", "0:11:0", 0);
        with(2, "try 1 always 7 say end", "0:11:0", 0);
    }

    private static void frames() {
        String loop = "while 1 do end";
        Game stage = Play.on(1, ": start 2 new drop 2 new drop 2 new drop ; : t2 frame 1 = if me 1 nth same if "
                + loop + " end end 7 say ; : h2 8 say ;");
        stage.advance(1);
        Play.check("frame 0", Play.said(stage), "0:1:7 0:1:7 0:1:7 0:1:8 0:1:8 0:1:8 0:1:8 0:1:8 0:1:8");
        stage.advance(1);
        Play.check("no event more in frame 1", Play.said(stage, 9), "1:1:7 1:11:0");
        Play.check("no hurt", stage.actor(1, 2), 0);
        Play.check("but it moved", stage.actor(2, 4), Float.floatToIntBits(0.25f + 0.5f));
        int before = stage.count(4);
        stage.advance(1);
        Play.check("frame 2 has all", stage.count(4) - before, 9);

        Game touches = Play.on(1, ": start 2 new drop 2 new drop 2 new drop ; : h2 3 say it 2 nth same if "
                + loop + " end ;");
        touches.advance(1);
        Play.check("touches", Play.said(touches), "0:1:3 0:1:3 0:1:3 0:11:0");

        Game started = Play.on(1, ": start 2 new drop " + loop + " ; : t2 7 say ;");
        Play.check("start", Play.said(started), "0:11:0");
        started.advance(1);
        Play.check("the frame has fuel of its own", Play.said(started), "0:11:0 0:1:7");

        Game shared = Play.on(1, ": start 0 new drop 0 new drop ; : t0 100 while dup do 1 - end drop 7 say ;");
        shared.advance(1);
        Play.check("fuel is the frame's, not the event's", Play.said(shared), "0:1:7 0:11:0");
    }

    public static void main(String[] args) {
        prices();
        ends();
        frames();
        Play.finish();
    }
}
