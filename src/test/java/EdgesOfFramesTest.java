/** Part IV: the boundaries of the start, the ticks, the moves, the touches and the leaving. */
public final class EdgesOfFramesTest {
    private static final float INFINITE = Float.POSITIVE_INFINITY;
    private static final float LEAST = Float.MIN_VALUE;
    private static final String[] MOTIONS = {"x", "y", "vx", "vy"};

    private static void starts() {
        Edge.sentence("At the START: frame 0, no ACTORS, SEED 1, OUTPUT empty; the DEFINITION start is done, if there is one");
        Game without = Play.on(1, ": a 0 new drop 7 say ;");
        int[] want = {0, 1, 0, 0, 0, 0, 0, 0, 1, 500};
        for (int what = 0; what < want.length; what++) {
            Edge.check("count " + what + " without start", without.count(what), want[what]);
        }
        Edge.check("it runs", without.advance(2), 2);
        Game stage = Play.on(1, ": start 2 new drop 7 say 6 dice drop 1 raise ; : t2 1 raise ;");
        stage.advance(3);
        Edge.check("a second book", Play.read(stage, ": start count ; : count 0 nth ;"), 2);
        int[] anew = {0, 2, 0, 0, 1, 3, 0, 0, 1, 500 - 43};
        for (int what = 0; what < anew.length; what++) {
            Edge.check("count " + what + " of a second book", stage.count(what), anew[what]);
        }
        Edge.check("no actor was there: PLACE", Play.said(stage), "0:10:2");
        for (String name : new String[] {"start0", "starts", "tstart", "star"}) {
            Edge.check(name + " is not start", Play.on(1, ": " + name + " 7 say ;").count(4), 0);
        }
        Edge.sentence("(OUTPUT: 10, its code; of start, too)");
        Game hurt = Play.on(1, ": start 0 new drop 5 raise ;");
        Edge.check("said", Play.said(hurt), "0:10:9");
        Edge.check("no actor is hurt by start", hurt.actor(0, 2), 0);
    }

    private static void ticks() {
        Edge.sentence("the DEFINITION t and its KIND's number (t0 .. t6), if there is one, else that of the KIND above, and so on");
        int[] above = {-1, 0, 0, 2, 2, 3, 4};
        for (String event : new String[] {"t", "h"}) {
            for (int has = 0; has < 7; has++) {
                for (int kind = 0; kind < 7; kind++) {
                    int at = kind;
                    while (at >= 0 && at != has) {
                        at = above[at];
                    }
                    boolean body = kind >= 2;
                    Game stage = Play.on(1, ": start " + kind + " new drop " + kind + " new drop ; : " + event + has
                            + " 7 say ;");
                    stage.advance(1);
                    boolean due = at == has && (body || event.equals("t"));
                    Edge.check(event + has + " of kind " + kind, stage.count(4), due ? 2 : 0);
                }
            }
        }
        for (String name : new String[] {"t", "t7", "t9", "t00", "t10", "h", "h7", "t2x"}) {
            Game stage = Play.on(1, ": start 2 new drop 2 new drop 0 new drop ; : " + name + " 7 say ;");
            stage.advance(1);
            Edge.check(name + " is no event", stage.count(4), 0);
        }
        Edge.sentence("of each that is not gone, in order, also those that come meanwhile");
        Game gone = Play.on(1, ": start 0 new drop 0 new drop 0 new drop ; : t0 me say me 0 nth same if 1 nth gone end ;");
        gone.advance(1);
        Edge.check("said", Play.said(gone), "0:9:0 0:9:2");
        Game itself = Play.on(1, ": start 0 new drop 0 new drop ; : t0 me gone me say ;");
        itself.advance(2);
        Edge.check("one that goes in its own tick", Play.said(itself), "0:9:0 0:9:1");
        Game ahead = Play.on(1, ": start 0 new drop 0 new drop ; : t0 me say me 1 nth same if 0 nth gone end ;");
        ahead.advance(1);
        Edge.check("one ahead had its tick", Play.said(ahead), "0:9:0 0:9:1");
        Game come = Play.on(1, ": start 0 new drop 0 new drop ; : t0 me say me 0 nth same if 1 new drop end ; : t1 8 say ;");
        come.advance(1);
        Edge.check("the new one is the last", Play.said(come), "0:9:0 0:9:1 0:1:8");
        Game brief = Play.on(1, ": start 0 new drop ; : t0 me say 1 new gone ; : t1 8 say ;");
        brief.advance(2);
        Edge.check("one that is gone as it comes", Play.said(brief), "0:9:0 1:9:0");
    }

    private static float wrapped(float at) {
        if (at < 0 || at > 100) {
            float left = at % 100f;
            return left < 0 ? left + 100f : left;
        }
        return at;
    }

    /** A body's EDGE at one side: where it is, and its speed there. */
    private static float[] edged(float at, float speed) {
        if (at < 0) {
            return new float[] {0, Math.abs(speed) * 0.5f};
        }
        if (at > 100) {
            return new float[] {100, -(Math.abs(speed) * 0.5f)};
        }
        return new float[] {at, speed};
    }

    /** The document's MOVES in Java's own floats. */
    private static float[] moved(int kind, float[] from) {
        boolean drifts = kind == 3 || kind == 5;
        float vx = from[2];
        float vy = from[3] + (drifts ? -0.125f : 0.25f);
        if (kind == 5 || kind == 6) {
            vx = vx * 0.75f;
            vy = vy * 0.75f;
        }
        float x = from[0] + vx;
        float y = from[1] + vy;
        if (drifts) {
            return new float[] {wrapped(x), wrapped(y), vx, vy};
        }
        float[] atX = edged(x, vx);
        float[] atY = edged(y, vy);
        if ((kind == 4 || kind == 6) && atY[0] == 100) {
            atY[1] = Float.isNaN(atY[1]) ? 0 : Math.copySign(0f, atY[1]);
        }
        if (kind == 6 && Math.abs(atX[1]) > 8) {
            atX[1] = Math.copySign(8f, atX[1]);
        }
        return new float[] {atX[0], atY[0], atX[1], atY[1]};
    }

    private static Game body(int kind, float... motion) {
        StringBuilder text = new StringBuilder(": start " + kind + " new");
        for (int i = 0; i < 4; i++) {
            text.append(' ').append(Edge.bits(motion[i])).append(" over ").append(MOTIONS[i]).append('!');
        }
        return Play.on(1, text + " drop ;");
    }

    private static void moves(int kind, float... from) {
        Game stage = body(kind, from);
        float[] at = from;
        for (int frame = 0; frame < 3; frame++) {
            at = moved(kind, at);
            stage.advance(1);
            for (int i = 0; i < 4; i++) {
                Edge.check(MOTIONS[i] + " of kind " + kind + " from " + from[0] + " " + from[1] + " " + from[2] + " "
                        + from[3] + " in frame " + frame, stage.actor(0, 3 + i), Float.floatToIntBits(at[i]));
            }
        }
    }

    private static void is(int kind, float[] from, float... want) {
        Game stage = body(kind, from);
        stage.advance(1);
        for (int i = 0; i < 4; i++) {
            Edge.check(MOTIONS[i] + " of kind " + kind + " from " + from[0] + " " + from[1] + " " + from[2] + " " + from[3],
                    stage.actor(0, 3 + i), Float.floatToIntBits(want[i]));
        }
    }

    private static float[] from(float x, float y, float vx, float vy) {
        return new float[] {x, y, vx, vy};
    }

    private static void edges() {
        float below = Math.nextDown(100f);
        float above = Math.nextUp(100f);
        Edge.sentence("EDGE: below 0: it is 0, and the speed there is half its amount");
        is(2, from(0, 0, 0, -0.25f), 0, 0, 0, 0);
        is(2, from(LEAST, LEAST, 0, -0.25f), LEAST, LEAST, 0, 0);
        is(2, from(-LEAST, -LEAST, 0, -0.25f), 0, 0, 0, 0);
        is(2, from(3, 3, -3, -3.25f), 0, 0, -3, -3);
        is(2, from(3, 3, -4, -4.25f), 0, 0, 2, 2);
        is(2, from(-0f, 50, -0f, 0), -0f, 50.25f, -0f, 0.25f);
        is(2, from(-8, -8, 4, 3.75f), 0, 0, 2, 2);
        is(2, from(-8, 50, -0f, 0), 0, 50.25f, 0, 0.25f);
        Edge.sentence("EDGE: above 100: it is 100, the speed there half its amount, below 0 (-0 of 0)");
        is(2, from(100, 100, 0, -0.25f), 100, 100, 0, 0);
        is(2, from(below, below, 0, -0.25f), below, below, 0, 0);
        is(2, from(above, above, 0, -0.25f), 100, 100, -0f, -0f);
        is(2, from(97, 97, 3, 2.75f), 100, 100, 3, 3);
        is(2, from(97, 97, 4, 3.75f), 100, 100, -2, -2);
        is(2, from(110, 110, -4, -4.25f), 100, 100, -2, -2);
        is(2, from(5, 5, INFINITE, -INFINITE), 100, 0, -INFINITE, INFINITE);
        is(2, from(5, 5, Float.NaN, Float.NaN), Float.NaN, Float.NaN, Float.NaN, Float.NaN);
        Edge.sentence("A DRIFTER: what is below 0 or above 100 becomes what is left of it by 100, and, if that is below 0, 100 more");
        is(3, from(0, 0, 0, 0.125f), 0, 0, 0, 0);
        is(3, from(100, 100, 0, 0.125f), 100, 100, 0, 0);
        is(3, from(above, below, 0, 0.125f), above - 100, below, 0, 0);
        is(3, from(-LEAST, LEAST, 0, 0.125f), 100, LEAST, 0, 0);
        is(3, from(200, -100, 0, 0.125f), 0, -0f, 0, 0);
        is(3, from(-1, 101, 0, 0.125f), 99, 1, 0, 0);
        is(3, from(-250, 250, 0, 0.125f), 50, 50, 0, 0);
        is(3, from(INFINITE, 5, 0, 0.125f), Float.NaN, 5, 0, 0);
        Edge.sentence("A WALKER: then, if y is 100, vy is 0 with its sign (NAN: 0)");
        is(4, from(50, 100, 0, -0.25f), 50, 100, 0, 0);
        is(4, from(50, 96, 0, 3.75f), 50, 100, 0, 0);
        is(4, from(50, 104, 0, -4.25f), 50, 100, 0, -0f);
        is(4, from(50, 99, 0, 5), 50, 100, 0, -0f);
        is(4, from(50, below, 0, -0.25f + LEAST), 50, below, 0, 0);
        is(4, from(50, 95, 0, 3.75f), 50, 99, 0, 4);
        is(2, from(50, 96, 0, 3.75f), 50, 100, 0, 4);
        Edge.sentence("A RUNNER: then vx is no more than 8 in amount (with its sign; NAN stays)");
        float eight = 8 / 0.75f;
        is(6, from(50, 50, 8, -0.25f), 56, 50, 6, 0);
        is(6, from(50, 50, 12, -0.25f), 59, 50, 8, 0);
        is(6, from(50, 50, -12, -0.25f), 41, 50, -8, 0);
        is(6, from(50, 50, -40, -0.25f), 20, 50, -8, 0);
        is(6, from(50, 50, Float.NaN, -0.25f), Float.NaN, 50, Float.NaN, 0);
        is(6, from(50, 50, INFINITE, -0.25f), 100, 50, -8, 0);
        for (float vx : new float[] {Math.nextDown(eight), eight, Math.nextUp(eight), -eight, Math.nextDown(-eight)}) {
            moves(6, 50, 50, vx, 0);
        }
        is(4, from(50, 50, 12, -0.25f), 62, 50, 12, 0);
        grid(below, above);
    }

    /** All kinds over all that lies at an edge. */
    private static void grid(float below, float above) {
        Edge.sentence("MOVES of each BODY: PULL, then x = x + vx, y = y + vy, then EDGE");
        float[] places = {0, -0f, LEAST, -LEAST, 0.25f, -0.25f, 50, 99.75f, below, 100, above, 200, -100, -250.5f, 1e30f,
            INFINITE, -INFINITE, Float.NaN};
        float[] speeds = {0, -0f, LEAST, -LEAST, 0.125f, -0.125f, -0.25f, 0.75f, 8, -10.75f, 100, -100, 3e38f, INFINITE,
            -INFINITE, Float.NaN};
        for (int kind = 2; kind < 7; kind++) {
            for (int p = 0; p < places.length; p++) {
                for (int s = 0; s < speeds.length; s++) {
                    int other = (p * 7 + s * 5 + kind) % places.length;
                    moves(kind, places[p], places[other], speeds[(s + p) % speeds.length], speeds[s]);
                }
            }
        }
        Edge.sentence("MOVES of each BODY: no others");
        for (int kind = 0; kind < 2; kind++) {
            Game stage = Play.on(1, ": start " + kind + " new drop ;");
            stage.advance(2);
            for (int what = 3; what < 7; what++) {
                Edge.check("kind " + kind, stage.actor(0, what), 0);
            }
        }
    }

    private static String still(float x, float y) {
        return " 3 new " + Edge.bits(x) + " over x! " + Edge.bits(y) + " over y! 0.125 swap vy!";
    }

    private static void near(float x, float y, float otherX, float otherY, boolean want) {
        Game stage = Play.on(1, ": start" + still(x, y) + still(otherX, otherY) + " ; : h3 me say ;");
        stage.advance(1);
        Edge.check(x + " " + y + " and " + otherX + " " + otherY, Play.said(stage), want ? "0:9:0 0:9:1" : "");
    }

    private static void touches() {
        float below = Math.nextDown(2f);
        Edge.sentence("|x - x'| and |y - y'| below 2 (REALS)");
        near(0, 0, 0, 0, true);
        near(0, 0, below, 0, true);
        near(0, 0, 2, 0, false);
        near(below, 0, 0, 0, true);
        near(2, 0, 0, 0, false);
        near(0, 0, 0, below, true);
        near(0, 0, 0, 2, false);
        near(0, below, 0, 0, true);
        near(0, 2, 0, 0, false);
        near(0, 0, below, below, true);
        near(0, 0, 2, 2, false);
        near(50, 50, 52, 50, false);
        near(50, 50, Math.nextDown(52f), 50, true);
        near(LEAST, 0, 2, 0, false);
        near(0, 0, 98, 0, false);
        near(100, 0, 0, 0, false);
        near(Float.NaN, 0, 0, 0, false);
        near(0, Float.NaN, 0, Float.NaN, false);
        Edge.sentence("of each two BODIES that are on stage as these begin, in order");
        Game three = Play.on(1, ": start" + still(5, 5) + " 0 new drop" + still(6, 5) + still(7, 5) + " ; : h3 me say it say ;");
        three.advance(1);
        Edge.check("said", Play.said(three), "0:9:0 0:9:2 0:9:2 0:9:0 0:9:2 0:9:3 0:9:3 0:9:2");
        Game made = Play.on(1, ": start" + still(0, 0) + still(0, 0) + " ; : h3 me say 3 new drop ;");
        made.advance(1);
        Edge.check("one that comes in a touch does not touch in it", Play.said(made), "0:9:0 0:9:1");
        Edge.sentence("neither of them gone");
        Game gone = Play.on(1, ": start" + still(5, 5) + still(5, 5) + still(5, 5) + " ; : t3 me 1 nth same if me gone end ;"
                + " : h3 me say it say ;");
        gone.advance(1);
        Edge.check("gone in its tick", Play.said(gone), "0:9:0 0:9:2 0:9:2 0:9:0");
        Edge.sentence("where they are at their turn");
        Game away = Play.on(1, ": start" + still(5, 5) + still(5, 5) + still(9, 5) + " ; : h3 me say it say 1 nth me same if"
                + " 8 me x! end ;");
        away.advance(1);
        Edge.check("said", Play.said(away), "0:9:0 0:9:1 0:9:1 0:9:0 0:9:1 0:9:2 0:9:2 0:9:1");
        Edge.sentence("then, if neither is gone, of the second");
        for (String who : new String[] {"me", "it"}) {
            Game stage = Play.on(1, ": start" + still(5, 5) + still(5, 5) + " ; : h3 me say " + who + " gone ;");
            stage.advance(1);
            Edge.check(who + " gone", Play.said(stage), "0:9:0");
        }
        Game apart = Play.on(1, ": start" + still(5, 5) + still(5, 5) + " ; : h3 me say 50 me x! ;");
        apart.advance(1);
        Edge.check("the second's event comes, though they are apart by then", Play.said(apart), "0:9:0 0:9:1");
        Game hurt = Play.on(1, ": start" + still(5, 5) + still(5, 5) + " ; : h3 3 raise ;");
        hurt.advance(1);
        Edge.check("and though the first had a fault", Play.said(hurt), "0:10:9 0:10:9");
        Game only = Play.on(1, ": start" + still(5, 5) + " 4 new 5 over x! 4.75 swap y! ; : h4 me say it say ;");
        only.advance(1);
        Edge.check("and though the first has no event", Play.said(only), "0:9:1 0:9:0");
    }

    private static void leaving() {
        Edge.sentence("Those that are gone leave the stage. The frame is 1 more");
        Game stage = Play.on(1, ": start 0 new drop 1 new gone 2 new drop ; : t0 frame say 1 nth gone ;");
        Edge.check("gone in start, still there", stage.count(2), 3);
        stage.advance(1);
        Edge.check("on stage behind frame 0", stage.count(2), 2);
        Edge.check("frame", stage.count(0), 1);
        Edge.check("that one left", stage.actor(1, 1), Edge.NONE);
        Edge.check("the other moved up", stage.actor(2, 1), 1);
        stage.advance(1);
        Edge.check("on stage behind frame 1", stage.count(2), 1);
        Edge.check("frame", stage.count(0), 2);
        Edge.check("what it was stays", stage.actor(2, 0), 2);
        int y = stage.actor(2, 4);
        stage.advance(1);
        Edge.check("it moves no more", stage.actor(2, 4), y);
        Edge.check("1 nth is none then", Play.said(stage, stage.count(4) - 2), "2:1:2 2:10:2");
    }

    public static void main(String[] args) {
        starts();
        ticks();
        edges();
        touches();
        leaving();
        Play.finish();
    }
}
