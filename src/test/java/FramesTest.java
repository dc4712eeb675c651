/** Part IV: ticks, moves, touches, and who leaves when. */
public final class FramesTest {
    private static int bits(float value) {
        return Float.floatToIntBits(value);
    }

    private static void ticksByKind() {
        int[] above = {-1, 0, 0, 2, 2, 3, 4};
        for (int missing = 0; missing < 128; missing++) {
            StringBuilder book = new StringBuilder(": start");
            for (int kind = 0; kind < 7; kind++) {
                book.append(' ').append(kind).append(" new drop");
            }
            book.append(" ;");
            for (int kind = 0; kind < 7; kind++) {
                if ((missing >> kind & 1) == 0) {
                    book.append(" : t").append(kind).append(' ').append(kind).append(" say me say ;");
                }
            }
            StringBuilder want = new StringBuilder();
            for (int kind = 0; kind < 7; kind++) {
                int from = kind;
                while (from >= 0 && (missing >> from & 1) == 1) {
                    from = above[from];
                }
                if (from >= 0) {
                    want.append(want.length() == 0 ? "" : " ").append("0:1:").append(from).append(" 0:9:").append(kind);
                }
            }
            Game stage = Play.on(1, book.toString());
            stage.advance(1);
            Play.check(book.toString(), Play.said(stage), want.toString());
        }
    }

    private static void comingAndGoing() {
        Game stage = Play.on(1, ": start 0 new drop 1 new drop 0 new drop ;"
                + " : t0 me say frame 0 = if 1 nth gone end ; : t1 5 say 1 new drop ;");
        stage.advance(1);
        Play.check("a gone one does not tick", Play.said(stage), "0:9:0 0:9:2");
        Play.check("it left", stage.actor(1, 1), RewindStage.NONE);
        Play.check("those behind move up", stage.actor(2, 1), 1);
        Play.check("on stage", stage.count(2), 2);

        Game more = Play.on(1, ": start 0 new drop ; : t0 me say frame 0 = if 0 new drop end ;");
        more.advance(1);
        Play.check("those that come tick, too", more.count(3), 16);
        Play.check("all sixteen", Play.said(more, 14), "0:9:14 0:9:15");
        more.advance(1);
        Play.check("once each", more.count(4), 32);

        Game stays = Play.on(1, ": start 0 new gone 0 new drop ; : t0 0 nth on say ; : a ;");
        Play.check("gone in start is still there", stays.count(2), 2);
        stays.advance(1);
        Play.check("until the end of frame 0", Play.said(stays), "0:1:1");
        Play.check("then it is not", stays.actor(0, 1), RewindStage.NONE);
        Play.check("the other one is first", stays.actor(1, 1), 0);

        Game left = Play.on(1, ": start 0 new 1 new dup gone swap mind! ;"
                + " : t0 me mind on say me mind kind say me mind gone 7 me mind mind! ;");
        left.advance(2);
        Play.check("one that left can still be had", Play.said(left), "0:1:1 0:1:1 1:1:0 1:1:1");
        Play.check("and has what it is given", left.held(1, 0, 1), 7);

        Game full = Play.on(1, ": start 16 while dup do 0 new drop 1 - end ;"
                + " : t0 me gone 0 new say ; : a ;");
        full.advance(1);
        Play.check("gone ones take their place until the end", full.output(0, 1), 0);
        Play.check("none is left", full.count(2), 0);
        Play.check("sixteen were made", full.count(3), 16);

        Game most = Play.on(1, ": start 0 new drop ; : t0 1 new drop 1 new drop 1 new drop 1 new say ; : t1 me gone ;");
        most.advance(12);
        Play.check("32 in a game", most.count(3), 32);
        Play.check("then there is none", Play.said(most, most.count(4) - 1), "11:0:0");
    }

    private static void hurts() {
        Game stage = Play.on(1, ": start 1 new drop 2 new drop 5 raise ; : t1 none len ; : t2 frame 1 = if 4 raise end ;");
        stage.advance(3);
        Play.check("faults are said", Play.said(stage), "0:10:9 0:10:1 1:10:1 1:10:9 2:10:1");
        Play.check("hurts", stage.actor(0, 2), 3);
        Play.check("hurts", stage.actor(1, 2), 1);
    }

    /** One body of a kind, set up and moved once. */
    private static void moved(int kind, String at, float x, float y, float vx, float vy) {
        String[] parts = at.split(" ");
        String book = ": start " + kind + " new dup " + parts[0].replace('_', ' ') + " swap x! dup "
                + parts[1].replace('_', ' ') + " swap y! dup " + parts[2].replace('_', ' ') + " swap vx! "
                + parts[3].replace('_', ' ') + " swap vy! ;";
        Game stage = Play.on(1, book);
        stage.advance(1);
        float[] want = {x, y, vx, vy};
        String[] names = {"x", "y", "vx", "vy"};
        for (int i = 0; i < 4; i++) {
            Play.check(names[i] + " of " + book, stage.actor(0, 3 + i), bits(want[i]));
        }
    }

    private static void moves() {
        moved(2, "10 20 1 2", 11, 22.25f, 1, 2.25f);
        moved(3, "10 20 1 2", 11, 21.875f, 1, 1.875f);
        moved(4, "10 20 1 2", 11, 22.25f, 1, 2.25f);
        moved(5, "10 20 1 2", 10.75f, 20 + 1.875f * 0.75f, 0.75f, 1.875f * 0.75f);
        moved(6, "10 20 1 2", 10.75f, 20 + 2.25f * 0.75f, 0.75f, 2.25f * 0.75f);
        // Edges of a body.
        moved(2, "1 1 -3 -4", 0, 0, 1.5f, 1.875f);
        moved(2, "99 99 3 4", 100, 100, -1.5f, -2.125f);
        moved(2, "0 0 0 -0.25", 0, 0, 0, 0);
        moved(2, "100 100 0 -0.25", 100, 100, 0, 0);
        moved(2, "200 200 0 -0.25", 100, 100, -0f, -0f);
        moved(2, "-5 -5 0 -0.25", 0, 0, 0, 0);
        moved(2, "200 50 -10 0", 100, 50.25f, -5, 0.25f);
        moved(2, "-50 50 10 0", 0, 50.25f, 5, 0.25f);
        moved(2, "-0.0 50 -0.0 0", -0f, 50.25f, -0f, 0.25f);
        moved(2, "5 5 0.0_0.0_/ 1.0_0.0_/", Float.NaN, 100, Float.NaN, Float.NEGATIVE_INFINITY);
        moved(2, "200 5 0.0_0.0_/ 0", Float.NaN, 5.25f, Float.NaN, 0.25f);
        // A drifter comes in on the other side.
        moved(3, "99 1 3 -4", 2, 100 - 3.125f, 3, -4.125f);
        moved(3, "1 99 -3 4", 98, 2.875f, -3, 3.875f);
        moved(3, "100 100 0 0.125", 100, 100, 0, 0);
        moved(3, "0 0 0 0.125", 0, 0, 0, 0);
        moved(3, "250 -250 0 0.125", 50, 50, 0, 0);
        moved(3, "-100 300 0 0.125", -0f, 0, 0, 0);
        moved(3, "1.0_0.0_/ 5 0 0.125", Float.NaN, 5, 0, 0);
        moved(3, "-0.0001 5 0 0.125", -0.0001f + 100f, 5, 0, 0);
        moved(5, "99 1 4 -4", 2, 100 + (1 - 4.125f * 0.75f), 3, -4.125f * 0.75f);
        // A walker stands at 100.
        moved(4, "50 99 0 4", 50, 100, 0, -0f);
        moved(4, "50 100 0 -0.25", 50, 100, 0, 0);
        moved(4, "50 100.5 0 -0.75", 50, 100, 0, -0f);
        moved(4, "50 101 0 0.0_0.0_/", 50, Float.NaN, 0, Float.NaN);
        moved(4, "50 99.75 0 0", 50, 100, 0, 0);
        moved(4, "1 50 -3 0", 0, 50.25f, 1.5f, 0.25f);
        // A runner is no faster than 8.
        moved(6, "50 50 16 0", 62, 50.1875f, 8, 0.1875f);
        moved(6, "50 50 -16 0", 38, 50.1875f, -8, 0.1875f);
        moved(6, "50 50 10 0", 57.5f, 50.1875f, 7.5f, 0.1875f);
        moved(6, "50 50 -40 0", 20, 50.1875f, -8, 0.1875f);
        moved(6, "5 50 -40 0", 0, 50.1875f, 8, 0.1875f);
        moved(6, "5 50 0.0_0.0_/ 0", Float.NaN, 50.1875f, Float.NaN, 0.1875f);
        moved(6, "50 99 0 4", 50, 100, 0, -0f);
    }

    private static String body(int kind, String x, String y) {
        return " " + kind + " new dup " + x + " swap x! " + y + " swap y!";
    }

    private static void touching(String x, String y, String other, String otherY, boolean want) {
        String book = ": start" + body(3, x, y) + body(3, other, otherY) + " ; : h0 me say ;";
        Game stage = Play.on(1, book);
        stage.advance(1);
        Play.check(book, Play.said(stage), want ? "0:9:0 0:9:1" : "");
    }

    private static void touches() {
        touching("50", "50", "50", "50", true);
        touching("50", "50", "51.9999", "50", true);
        touching("50", "50", "52", "50", false);
        touching("52", "50", "50", "50", false);
        touching("50", "50", "50", "51.9999", true);
        touching("50", "50", "50", "52", false);
        touching("51.5", "48.5", "50", "50", true);
        touching("50", "50", "0.0 0.0 /", "50", false);

        Game stage = Play.on(1, ": start" + body(2, "5", "5") + " 0 new drop 1 new drop" + body(4, "5", "5")
                + body(3, "5", "5") + " ; : h2 me say it say ; : h4 4 say me say it say ; : h0 99 say ; : h1 98 say ;");
        stage.advance(1);
        Play.check("each two in order", Play.said(stage), "0:9:0 0:9:3 0:1:4 0:9:3 0:9:0 0:9:0 0:9:4 0:9:4 0:9:0"
                + " 0:1:4 0:9:3 0:9:4 0:9:4 0:9:3");

        Game gone = Play.on(1, ": start" + body(2, "5", "5") + body(2, "5", "5") + body(2, "5", "5")
                + " ; : h2 me say it say it gone ;");
        gone.advance(1);
        Play.check("a gone one touches no more", Play.said(gone), "0:9:0 0:9:1 0:9:0 0:9:2");

        Game self = Play.on(1, ": start" + body(2, "5", "5") + body(2, "5", "5") + " ; : h2 me say me gone ;");
        self.advance(1);
        Play.check("nor the second one's event", Play.said(self), "0:9:0");

        Game apart = Play.on(1, ": start" + body(2, "5", "5") + body(2, "5", "5") + body(2, "5", "5")
                + " ; : h2 me say 0 nth me same if 50 me x! end ;");
        apart.advance(1);
        Play.check("where they are at their turn", Play.said(apart), "0:9:0 0:9:1 0:9:1 0:9:2");

        Game made = Play.on(1, ": start" + body(2, "0", "0") + body(2, "0", "0") + " ; : h2 2 new say ;");
        made.advance(1);
        Play.check("those that come do not touch yet", Play.said(made), "0:9:2 0:9:3");
        Play.check("nor did they move", made.actor(2, 4), 0);

        Game hurt = Play.on(1, ": start" + body(2, "5", "5") + body(2, "5", "5") + " ; : h2 3 raise ; : t2 it say ;");
        hurt.advance(1);
        Play.check("both are hurt", Play.said(hurt), "0:0:0 0:0:0 0:10:9 0:10:9");
        Play.check("hurts", hurt.actor(0, 2) + hurt.actor(1, 2), 2);
    }

    private static void goneOnesMove() {
        Game stage = Play.on(1, ": start 2 new drop ; : t2 1 me vx! me gone ;");
        stage.advance(1);
        Play.check("it moved with the others before it left", stage.actor(0, 3), bits(1));
        stage.advance(1);
        Play.check("but no more after", stage.actor(0, 3), bits(1));
    }

    /** An actor whose number was one's ahead of going back, or of a new book, has nothing of that one. */
    private static void newOnesAreNew() {
        String fill = " dup 5 swap x! dup 6 swap y! dup 7 swap vx! dup 8 swap vy! dup 1 swap mind! dup 2 swap pal!"
                + " dup 1 flags swap marks! dup 1 signs swap name! dup 1 smalls swap wear! dup 1 reals swap way! gone";
        String nothing = " | 0 0 0 | 0 0 0 | 0 0 0 | 0 0 0 | 0 0 0 | 0 0 0";
        Game stage = Play.on(1, ": start 1 new drop ; : t1 0 input if 3 new drop else 2 new" + fill
                + " end ; : t2 none len ;");
        stage.advance(1);
        Play.check("a body with all", stage.held(1, 5, 0), 4);
        Play.check("again", stage.give(0, 0, 1), 1);
        Play.check("a drifter without", Play.actors(stage).split("\n")[2], "actor 1 3 1 1 0 " + bits(99.875f) + " 0 "
                + bits(-0.125f) + nothing);
        stage = Play.on(1, ": start 2 new" + fill + " 2 new" + fill + " ; : t2 none len ;");
        stage.advance(1);
        Play.read(stage, ": start 2 new drop 2 new drop ;");
        for (int a = 0; a < 2; a++) {
            Play.check("new", Play.actors(stage).split("\n")[a + 1], "actor " + a + " 2 " + a + " 0 0 0 0 0"
                    + nothing);
        }
        stage.advance(1);
        Play.check("nor is it gone", stage.count(2), 2);
    }

    public static void main(String[] args) {
        ticksByKind();
        comingAndGoing();
        hurts();
        moves();
        touches();
        goneOnesMove();
        newOnesAreNew();
        Play.finish();
    }
}
