/** Part V and promises 6 to 8: the boundaries of inputs, of advancing and of going back. */
public final class EdgesOfInputsTest {
    private static final String BOOK = ": start 2 new drop 0 new drop ; : t2 0 input say 0 input me vx! 9 dice drop"
            + " 0 input 9 = if me gone end 0 input 8 = if 1 raise end 0 input 7 = if 2 ints me mind! end"
            + " me mind none same if else frame me mind 0 put end 0 input 6 = if 3 new drop end ;";

    /** One player's stage whose frames 0 .. frame - 1 were run, all inputs known up to frame 12 ahead. */
    private static Game known(int frame) {
        Game stage = new Game(1);
        int next = 0;
        while (stage.count(0) < frame) {
            for (; next <= stage.count(0); next++) {
                stage.give(0, next, 1);
            }
            stage.advance(1);
        }
        return stage;
    }

    /** One player's stage that has run so many frames in all, and stands at frame 0 of a new book. */
    private static Game used(int frames) {
        Game stage = new Game(1);
        int left = frames;
        while (left > 0) {
            Play.read(stage, ": a ;");
            left -= stage.advance(Math.min(12, left));
        }
        Play.read(stage, BOOK);
        return stage;
    }

    private static void numbersOfFrames() {
        Edge.sentence("Up to n FRAMES (1 .. 16): .. NONE for another n");
        Game stage = Play.on(1, BOOK);
        for (int n : new int[] {0, -1, 17, 18, Edge.MIN, Edge.MAX}) {
            Edge.refused(stage, "advance(" + n + ")", () -> stage.advance(n), Edge.NONE);
        }
        Edge.check("advance(1)", stage.advance(1), 1);
        Game all = new Game(1);
        for (int frame = 0; frame <= 12; frame++) {
            all.give(0, frame, 0);
        }
        Edge.check("advance(16)", all.advance(16), 16);
        Edge.check("frame", all.count(0), 16);
        Edge.check("frames run", all.count(5), 16);
        Edge.check("up to n", all.advance(16), 9);
    }

    private static void missingInputs() {
        Edge.sentence("One is not run if there is a player whose input of 12 frames ahead of it is not known (frame 12 and later)");
        for (int players = 1; players <= 4; players++) {
            Game stage = new Game(players);
            Edge.check("frames 0 .. 11", stage.advance(16), 12);
            for (int p = 0; p < players; p++) {
                Edge.check("frame 12 without player " + p, stage.advance(1), 0);
                Edge.check("give", stage.give(p, 0, 0), 0);
            }
            Edge.check("frame 12, but not 13", stage.advance(16), 1);
            for (int p = players - 1; p >= 0; p--) {
                stage.give(p, 2, 0);
            }
            Edge.check("frame 13 without those of frame 1", stage.advance(1), 0);
            for (int p = players - 1; p >= 0; p--) {
                Edge.check("frame 13 without all of frame 1", stage.advance(1), 0);
                stage.give(p, 1, 0);
            }
            Edge.check("frames 13 and 14", stage.advance(16), 2);
            Edge.check("frame", stage.count(0), 15);
        }
    }

    private static void lastFrame() {
        Edge.sentence("One is not run if the frame is 120");
        Game stage = known(119);
        Edge.check("frame", stage.count(0), 119);
        Edge.check("frame 119 is run, 120 is not", stage.advance(16), 1);
        Edge.check("frame", stage.count(0), 120);
        Edge.refused(stage, "advance at 120", () -> stage.advance(1), 0);
        Edge.check("but it goes back from there", stage.give(0, 119, 5), 1);
        Edge.check("and is at 120 again", stage.count(0), 120);
        Edge.check("the last input", stage.give(0, 132, 1), 0);
        Edge.check("one behind it", stage.give(0, 133, 1), Edge.NONE);
    }

    private static void allFrames() {
        Edge.sentence("One is not run if 400 were run in all; (of the object's life)");
        Game stage = used(398);
        Edge.check("frames run", stage.count(5), 398);
        Edge.check("two more", stage.advance(3), 2);
        Edge.check("frames run", stage.count(5), 400);
        Edge.refused(stage, "a 401st", () -> stage.advance(1), 0);
        Edge.sentence("-4: it would take more FRAMES than there are");
        for (int left = 0; left <= 3; left++) {
            Game late = used(395 - left);
            Edge.check("frames", late.advance(5), 5);
            Edge.check("frames run", late.count(5), 400 - left);
            for (int back = 5; back > left; back--) {
                int frame = 5 - back;
                Edge.refused(late, back + " again of " + left, () -> late.give(0, frame, 3), -4);
            }
            if (left > 0) {
                int frame = 5 - left;
                Edge.check(left + " again of " + left, late.give(0, frame, 3), left);
                Edge.check("all are run", late.count(5), 400);
                Edge.check("back once", late.count(6), 1);
            }
            Edge.check("what takes none may come", late.give(0, 0, 0), 0);
            Edge.check("and what is ahead", late.give(0, 5, 77), 0);
        }
    }

    private static void givenNumbers() {
        Edge.sentence("NONE: no such player");
        for (int players = 1; players <= 4; players++) {
            Game stage = new Game(players);
            for (int p : new int[] {-1, players, players + 1, 4, Edge.MIN, Edge.MAX}) {
                Edge.refused(stage, "give by " + p + " of " + players, () -> stage.give(p, 0, 0), Edge.NONE);
            }
            Edge.check("the first", stage.give(0, 0, 0), 0);
            Edge.check("the last", stage.give(players - 1, 1, 0), 0);
        }
        Edge.sentence("bits not 0 .. 255");
        Game bits = Play.on(1, BOOK);
        for (int b : new int[] {-1, 256, -256, 257, Edge.MIN, Edge.MAX}) {
            Edge.refused(bits, "bits " + b, () -> bits.give(0, 0, b), Edge.NONE);
        }
        Edge.check("bits 0", bits.give(0, 0, 0), 0);
        Edge.check("bits 255", bits.give(0, 1, 255), 0);
        Edge.check("as they are", bits.input(0, 1, false), 255);
        Edge.sentence("a frame below 0 or above the stage's and 12");
        Game frames = Play.on(1, BOOK);
        for (int at = 0; at < 3; at++) {
            int now = at;
            for (int frame : new int[] {-1, now + 13, now + 14, Edge.MIN, Edge.MAX, Edge.MAX - 11}) {
                Edge.refused(frames, "frame " + frame + " at " + now, () -> frames.give(0, frame, 0), Edge.NONE);
            }
            Edge.check("frame " + (now + 12), frames.give(0, now + 12, 0), 0);
            frames.advance(1);
        }
        Edge.check("frame 0", frames.give(0, 0, 0), 0);
        Edge.sentence("-2: it is known");
        Edge.refused(frames, "the same", () -> frames.give(0, 0, 0), -2);
        Edge.refused(frames, "another", () -> frames.give(0, 0, 5), -2);
        Edge.refused(frames, "one ahead", () -> frames.give(0, 12, 5), -2);
        Edge.refused(frames, "NONE comes first", () -> frames.give(0, 0, 256), Edge.NONE);
        Edge.refused(frames, "NONE comes first", () -> frames.give(1, 0, 0), Edge.NONE);
        Edge.sentence("-3: it is 13 frames or more behind the stage's (never: it is known then)");
        Game old = known(14);
        Edge.refused(old, "13 behind", () -> old.give(0, 1, 9), -2);
        Edge.refused(old, "14 behind", () -> old.give(0, 0, 9), -2);
    }

    private static void taken() {
        Edge.sentence("taken to be that player's latest known one of a frame ahead of it, 0 without one");
        Game stage = new Game(2);
        stage.give(0, 3, 9);
        stage.give(0, 5, 0);
        stage.give(0, 7, 255);
        int[] want = {0, 0, 0, 9, 9, 0, 0, 255, 255};
        for (int frame = 0; frame < want.length; frame++) {
            Edge.check("frame " + frame, stage.input(0, frame, false), want[frame]);
            Edge.check("the other's frame " + frame, stage.input(1, frame, false), 0);
            boolean known = frame == 3 || frame == 5 || frame == 7;
            Edge.check("known " + frame, stage.input(0, frame, true), known ? 1 : 0);
        }
        Edge.sentence("in a frame 0 .. 140; NONE if there is none such");
        for (boolean known : new boolean[] {false, true}) {
            Edge.check("frame 140", stage.input(0, 140, known), known ? 0 : 255);
            for (int frame : new int[] {-1, 141, 142, Edge.MIN, Edge.MAX}) {
                Edge.refused(stage, "frame " + frame, () -> stage.input(0, frame, known), Edge.NONE);
            }
            for (int p : new int[] {-1, 2, 3, 4, Edge.MIN, Edge.MAX}) {
                Edge.refused(stage, "player " + p, () -> stage.input(p, 0, known), Edge.NONE);
            }
            Edge.check("the last player", stage.input(1, 0, known), 0);
        }
    }

    private static void goingBack() {
        Edge.sentence("When an input comes of a frame that was run with another one");
        Game stage = Play.on(1, BOOK);
        stage.advance(5);
        Edge.check("of the stage's own frame", stage.give(0, 5, 3), 0);
        Edge.check("with the same one", stage.give(0, 2, 0), 0);
        Edge.check("not back yet", stage.count(6), 0);
        Edge.check("frames run", stage.count(5), 5);
        Edge.check("of the latest frame", stage.give(0, 4, 7), 1);
        Edge.check("back once", stage.count(6), 1);
        Edge.check("of frame 0", stage.give(0, 0, 1), 5);
        Edge.check("back twice", stage.count(6), 2);
        Edge.check("frames run", stage.count(5), 11);
        Edge.check("to the frame at which it was", stage.count(0), 5);
        Edge.check("what was said", Play.said(stage), "0:1:1 1:1:1 2:1:0 3:1:0 4:1:7");
        Edge.sentence("the stage goes back to that frame: 12 behind at most");
        Game far = Play.on(1, BOOK);
        Edge.check("frames", far.advance(12), 12);
        Edge.check("12 behind", far.give(0, 0, 2), 12);
        Edge.check("frame 12", far.advance(2), 1);
        Edge.check("12 behind", far.give(0, 1, 3), 12);
        Edge.check("frames run", far.count(5), 12 + 12 + 1 + 12);
        Game late = known(100);
        Edge.check("of frame 99", late.give(0, 99, 1), -2);
        Game twelve = Play.on(1, BOOK);
        for (int frame = 0; frame < 30; frame++) {
            twelve.advance(1);
            if (frame >= 11) {
                twelve.give(0, frame - 11, 0);
            }
        }
        Edge.check("frame", twelve.count(0), 30);
        Edge.check("12 behind is not known", twelve.input(0, 18, true) + twelve.input(0, 19, true), 1);
        Edge.check("the first that is not known", twelve.give(0, 19, 4), 11);
    }

    /** Played late, it is as if all had been known ahead: whatever a frame changed was taken back. */
    private static void takenBack() {
        Edge.sentence("the stage is taken back to the frame, and run again");
        for (int first = 0; first <= 9; first++) {
            for (int then = 0; then <= 9; then += 3) {
                Game late = Play.on(1, BOOK);
                late.give(0, 0, first);
                late.advance(3);
                late.give(0, 2, 1);
                late.give(0, 1, then);
                Game early = Play.on(1, BOOK);
                early.give(0, 0, first);
                early.give(0, 1, then);
                early.give(0, 2, 1);
                early.advance(3);
                Edge.check(first + ", then " + then, Play.scene(late), Play.scene(early));
                late.advance(3);
                early.advance(3);
                Edge.check(first + ", then " + then + ", and on", Play.scene(late), Play.scene(early));
            }
        }
    }

    /** What a late input undoes: an actor that had gone, was hurt, was made. */
    private static void undone() {
        Edge.sentence("the stage goes back to that frame: who was gone is not, who was hurt is not");
        for (int who = 0; who < 3; who++) {
            Game stage = Play.on(1, ": start 2 new drop 0 new drop 6 new drop ; : t0 frame 2 = 0 input 9 = and if me " + who
                    + " nth same if me gone end end ;");
            stage.give(0, 0, 9);
            stage.advance(3);
            Edge.check("it left", stage.actor(who, 1), Edge.NONE);
            Edge.check("again", stage.give(0, 1, 0), 2);
            Edge.check("it did not", stage.actor(who, 1), who);
            Edge.check("all are there", stage.count(2), 3);
            Edge.check("and stay", stage.advance(2), 2);
            Edge.check("all are there", stage.count(2), 3);
        }
        Game hurt = Play.on(1, ": start 0 new drop ; : t0 0 input 9 = if 2 new drop end ; : t2 0 input 9 = if 1 raise end ;");
        hurt.give(0, 0, 0);
        hurt.give(0, 1, 9);
        hurt.advance(5);
        Edge.check("made", hurt.count(3), 5);
        Edge.check("hurt", hurt.actor(1, 2), 4);
        Edge.check("again", hurt.give(0, 3, 0), 2);
        Edge.check("made", hurt.count(3), 3);
        Edge.check("hurt", hurt.actor(1, 2), 2);
        Edge.check("ahead", hurt.give(0, 5, 9), 0);
        hurt.advance(1);
        Edge.check("one that is made anew has its own hurts", hurt.actor(3, 2), 1);
        Play.read(hurt, ": start 0 new drop 0 new drop 0 new drop ;");
        for (int a = 0; a < 3; a++) {
            Edge.check("and has none in a new game", hurt.actor(a, 2), 0);
        }
    }

    public static void main(String[] args) {
        numbersOfFrames();
        missingInputs();
        lastFrame();
        allFrames();
        givenNumbers();
        taken();
        goingBack();
        takenBack();
        undone();
        Play.finish();
    }
}
