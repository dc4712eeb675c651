import java.util.function.IntSupplier;

/** Promises 1 to 5 and 9 to 14: the boundaries of each call, and that a refused one changes nothing. */
public final class EdgesOfCallsTest {
    private static final int[] FAR = {Edge.MIN, Edge.MIN + 1, Edge.MAX - 1, Edge.MAX};

    /** A stage that has some of everything: three actors, one of them left, rows, a crew, a fault, output. */
    private static final String BOOK = ": start 2 new drop 0 new drop 6 new drop 3 ints 0 nth mind! 2 2 crew 1 nth mind!"
            + " try -5 raise catch 1 nth pal! end 0 nth 2 nth mind! 1 flags 0 nth marks! 12 signs 0 nth name!"
            + " 0 smalls 0 nth wear! 2 reals 1 nth way! 2 nth 1 nth mind 1 put -7 0 nth mind 2 put -1 0 nth pal!"
            + " none say -1 say 1 raise ; : t0 0 input say ; : t6 me gone ;";

    private static Game stage() {
        Game stage = Play.on(2, BOOK);
        stage.give(0, 0, 5);
        stage.advance(2);
        stage.give(0, 1, 6);
        return stage;
    }

    private static int players(Game stage) {
        int players = 0;
        for (int p = -2; p < 10; p++) {
            players += stage.input(p, 0, true) == 0 ? 1 : 0;
        }
        return players;
    }

    private static void newObjects() {
        Edge.sentence("So many players (1 .. 4; others: the nearest)");
        int[][] told = {{1, 1}, {2, 2}, {3, 3}, {4, 4}, {0, 1}, {-1, 1}, {5, 4}, {6, 4}, {Edge.MIN, 1}, {Edge.MAX, 4}};
        for (int[] pair : told) {
            Edge.check("told " + pair[0], players(new Game(pair[0])), pair[1]);
        }
        Edge.sentence("an empty BOOK, frame 0");
        Game stage = new Game(1);
        int[] counts = {0, 0, 0, 0, 0, 0, 0, 0, 1, 500};
        for (int what = 0; what < counts.length; what++) {
            Edge.check("count(" + what + ")", stage.count(what), counts[what]);
        }
        Edge.check("it runs", stage.advance(1), 1);
        Edge.check("fuel of its frame", stage.count(9), 500);
        Edge.check("no output", stage.output(0, 0), Edge.NONE);
        Edge.check("no actor", stage.actor(0, 0), Edge.NONE);
        Edge.check("nothing held", stage.held(0, 0, 0), Edge.NONE);
        Edge.check("no element", Edge.throwsIndex(stage, 0, 0, 0) ? 1 : 0, 1);
        Edge.check("nothing alike", stage.alike(0, 0, 0, 0) ? 1 : 0, 0);
    }

    private static void feeding() {
        Edge.sentence("Twenty bytes come behind the TAPE, of each number the highest first: how many it has");
        Game stage = new Game(1);
        Edge.check("the first", stage.feed(0x3a206162, 0x63646566, 0x6768696a, 0x20310a3b, 0x0a0a0a0a), 20);
        Edge.check("bytes", stage.count(7), 20);
        Edge.check("book", stage.book(), 1);
        Edge.check("the second", stage.feed(0xffffffff, 0, Edge.MIN, Edge.MAX, 0x20202020), 20);
        Edge.check("the third", stage.feed(0x3a206162, 0x63646566, 0x6768696a, 0x20310a3b, 0x0a0a0a0a), 40);
        Edge.check("bytes of any sort", stage.book(), Edge.NONE);
        Edge.check("place", stage.fault(1), 0);
        Edge.sentence("The TAPE has its first n bytes alone: n; NONE if it has fewer, or n is below 0");
        Game cut = new Game(1);
        Edge.check("end(0) of none", cut.end(0), 0);
        Edge.refused(cut, "end(1) of none", () -> cut.end(1), Edge.NONE);
        cut.feed(1, 2, 3, 4, 5);
        for (int n : new int[] {21, 22, -1, 4000, 4001, Edge.MIN, Edge.MAX}) {
            Edge.refused(cut, "end(" + n + ") of 20", () -> cut.end(n), Edge.NONE);
        }
        Edge.check("end(20)", cut.end(20), 20);
        Edge.check("bytes", cut.count(7), 20);
        Edge.check("end(19)", cut.end(19), 19);
        Edge.refused(cut, "end(20) of 19", () -> cut.end(20), Edge.NONE);
        Edge.check("feed behind 19", cut.feed(1, 2, 3, 4, 5), 39);
        Edge.check("end(1)", cut.end(1), 1);
        Edge.check("end(0)", cut.end(0), 0);
        Edge.check("bytes", cut.count(7), 0);
    }

    private static String withoutFault(Game stage) {
        return Play.all(stage).replaceFirst("\nfault .*", "");
    }

    private static void books() {
        Edge.sentence("NONE when it has a FAULT (all stays)");
        Game stage = stage();
        String before = withoutFault(stage);
        String[] wrong = {"", " ", ":", ": a", ": a 1", "a", ": a if ;", ": a b ;", ": a ; : a ;", ": start 7 say ; ?",
            ": start 0 new drop ; : b " + Edge.repeat("1 ", 601) + ";"};
        for (String text : wrong) {
            Edge.check("book of '" + text + "'", Play.read(stage, text), Edge.NONE);
            Edge.check("all stays with '" + text + "'", withoutFault(stage), before);
        }
        Edge.check("the old book goes on", stage.advance(1), 1);
        Edge.check("its events", stage.output(stage.count(4) - 1, 2), 6);
        Edge.check("its inputs", stage.give(1, 2, 9), 1);
        Edge.sentence("the START then (no inputs are known, none run)");
        Edge.check("a good one", Play.read(stage, ": a ;"), 1);
        Edge.check("frame", stage.count(0), 0);
        for (int p = 0; p < 2; p++) {
            for (int frame = 0; frame <= 140; frame += 1) {
                Edge.check("input", stage.input(p, frame, true) + stage.input(p, frame, false), 0);
            }
        }
        Edge.check("what was known can be given again", stage.give(0, 0, 1), 0);
        Edge.check("and nothing was run with it", stage.count(6), 2);
        sixty();
    }

    private static void sixty() {
        Edge.sentence("-2 when 60 were read already in this object's life, those with a FAULT, too (the TAPE is empty then)");
        for (int faults = 0; faults <= 60; faults += 30) {
            Game stage = new Game(1);
            for (int i = 0; i < 60; i++) {
                boolean wrong = i >= 60 - faults;
                Edge.check("book " + i, Play.read(stage, wrong ? ": ?" : ": start 4 say ;"), wrong ? Edge.NONE : 1);
            }
            stage.advance(2);
            Play.tape(stage, ": start 5 say ; : b ;");
            Edge.check("bytes", stage.count(7), 21);
            Edge.check("book 61", stage.book(), -2);
            Edge.check("the TAPE is empty", stage.count(7), 0);
            Edge.check("the old book stays", stage.count(1), faults == 60 ? 0 : 1);
            Edge.check("the frame stays", stage.count(0), 2);
            Edge.check("it did not read: the latest fault stays", stage.fault(0), faults == 0 ? 0 : 1);
            Edge.check("and its place", stage.fault(1), faults == 0 ? Edge.NONE : 2);
            Edge.refused(stage, "book 62", stage::book, -2);
            Play.tape(stage, ":");
            Edge.check("book 63 of a wrong one", stage.book(), -2);
        }
    }

    private static void faults() {
        Edge.sentence("NONE for others, or ahead of any");
        Game stage = new Game(1);
        for (int what = -1; what <= 2; what++) {
            Edge.check("fault(" + what + ") ahead of any", stage.fault(what), Edge.NONE);
        }
        Edge.sentence("what 0 the FAULT's number (0 without), 1 its place (NONE without)");
        Play.read(stage, ": a ; : a ;");
        Edge.check("number", stage.fault(0), 2);
        Edge.check("place", stage.fault(1), 8);
        Edge.refused(stage, "fault(-1)", () -> stage.fault(-1), Edge.NONE);
        Edge.refused(stage, "fault(2)", () -> stage.fault(2), Edge.NONE);
        for (int what : FAR) {
            Edge.check("fault(" + what + ")", stage.fault(what), Edge.NONE);
        }
        Play.read(stage, ": a ;");
        Edge.check("number of a good one", stage.fault(0), 0);
        Edge.check("place of a good one", stage.fault(1), Edge.NONE);
        Play.read(stage, "");
        Edge.check("number of an empty one", stage.fault(0), 1);
        Edge.check("place of an empty one", stage.fault(1), 0);
    }

    private static void none(Game stage, String call, IntSupplier answer) {
        Edge.refused(stage, call, answer, Edge.NONE);
    }

    private static void asked() {
        Game stage = stage();
        Edge.sentence("count: NONE for others");
        int[] counts = {2, 3, 2, 3, 7, 3, 1, 0, 1, 494};
        for (int what = 0; what <= 9; what++) {
            Edge.check("count(" + what + ")", stage.count(what), counts[what]);
        }
        none(stage, "count(-1)", () -> stage.count(-1));
        none(stage, "count(10)", () -> stage.count(10));
        Edge.sentence("actor: (also one that left); NONE for others");
        int[][] actors = {{2, 0, 0}, {0, 1, 0}, {6, Edge.NONE, 0}};
        for (int a = 0; a < 3; a++) {
            for (int what = 0; what < 3; what++) {
                Edge.check("actor(" + a + ", " + what + ")", stage.actor(a, what), actors[a][what]);
            }
            Edge.check("a body has moved", stage.actor(a, 4) != 0 ? 1 : 0, a == 1 ? 0 : 1);
            int number = a;
            none(stage, "actor(a, -1)", () -> stage.actor(number, -1));
            none(stage, "actor(a, 7)", () -> stage.actor(number, 7));
        }
        for (int what = 0; what <= 6; what++) {
            int asked = what;
            none(stage, "actor(-1, " + what + ")", () -> stage.actor(-1, asked));
            none(stage, "actor(3, " + what + ")", () -> stage.actor(3, asked));
        }
        for (int far : FAR) {
            Edge.check("count", stage.count(far), Edge.NONE);
            Edge.check("actor", stage.actor(far, 0), Edge.NONE);
            Edge.check("actor", stage.actor(0, far), Edge.NONE);
            Edge.check("actor", stage.actor(far, far), Edge.NONE);
        }
        Edge.sentence("(0 if it is no BODY)");
        for (int what = 3; what <= 6; what++) {
            Edge.check("actor(1, " + what + ")", stage.actor(1, what), 0);
        }
    }

    private static void held() {
        Game stage = stage();
        Edge.sentence("held: what 0 what it is, 1 its number, 2 the KIND of a CREW, why of a FAULT, else 0");
        int[][][] want = {
            {{3, 3, 0}, {1, -1, 0}, {5, 1, 0}, {7, 12, 0}, {6, 0, 0}, {0, 0, 0}},
            {{8, 2, 2}, {10, 9, -5}, {0, 0, 0}, {0, 0, 0}, {0, 0, 0}, {4, 2, 0}},
            {{9, 0, 0}, {0, 0, 0}, {0, 0, 0}, {0, 0, 0}, {0, 0, 0}, {0, 0, 0}}};
        for (int a = 0; a < 3; a++) {
            for (int part = 0; part < 6; part++) {
                for (int what = 0; what < 3; what++) {
                    Edge.check("held(" + a + ", " + part + ", " + what + ")", stage.held(a, part, what), want[a][part][what]);
                }
            }
        }
        Edge.sentence("held: NONE for others");
        int[][] others = {{-1, 0, 0}, {3, 0, 0}, {32, 0, 0}, {0, -1, 0}, {0, 6, 0}, {0, 0, -1}, {0, 0, 3}, {3, 6, 3}};
        for (int[] call : others) {
            none(stage, "held(" + call[0] + ", " + call[1] + ", " + call[2] + ")", () -> stage.held(call[0], call[1], call[2]));
        }
        for (int far : FAR) {
            Edge.check("held", stage.held(far, 0, 0), Edge.NONE);
            Edge.check("held", stage.held(0, far, 0), Edge.NONE);
            Edge.check("held", stage.held(0, 0, far), Edge.NONE);
        }
    }

    private static void elements() {
        Game stage = stage();
        Edge.sentence("element: the INT, the bits, or the NUMBER of an ACTOR (NONE)");
        Edge.check("ints", stage.element(0, 0, 0), 0);
        Edge.check("ints", stage.element(0, 0, 2), -7);
        Edge.check("crew", stage.element(1, 0, 0), Edge.NONE);
        Edge.check("crew", stage.element(1, 0, 1), 2);
        Edge.check("flags", stage.element(0, 2, 0), 0);
        Edge.check("signs", stage.element(0, 3, 11), 0);
        Edge.check("reals", stage.element(1, 5, 1), 0);
        Edge.sentence("IndexOutOfBoundsException: there is no such ACTOR, ROW, place");
        int[][] wrong = {{0, 0, -1}, {0, 0, 3}, {1, 0, -1}, {1, 0, 2}, {0, 2, 1}, {0, 3, 12}, {0, 4, 0}, {1, 5, 2}, {0, 1, 0},
            {1, 1, 0}, {2, 0, 0}, {0, 5, 0}, {2, 1, 0}, {-1, 0, 0}, {3, 0, 0}, {0, -1, 0}, {0, 6, 0}, {1, 6, 0}, {-1, 6, 0}};
        for (int[] call : wrong) {
            Edge.refused(stage, "element(" + call[0] + ", " + call[1] + ", " + call[2] + ") throws",
                    () -> Edge.throwsIndex(stage, call[0], call[1], call[2]) ? 1 : 0, 1);
        }
        for (int far : FAR) {
            Edge.check("actor " + far, Edge.throwsIndex(stage, far, 0, 0) ? 1 : 0, 1);
            Edge.check("part " + far, Edge.throwsIndex(stage, 0, far, 0) ? 1 : 0, 1);
            Edge.check("place " + far, Edge.throwsIndex(stage, 0, 0, far) ? 1 : 0, 1);
        }
    }

    private static void alike() {
        Game stage = Play.on(1, ": start 0 new drop 0 new drop 2 ints dup 0 nth mind! 1 nth pal! 2 ints 1 nth mind!"
                + " 5 0 nth pal! 1 flags dup 0 nth marks! 1 nth marks! 1 signs 0 nth name! 1 signs 1 nth name! ;");
        Edge.sentence("Whether two ACTORS' parts are one thing (as by same)");
        int[][] calls = {{0, 0, 1, 1, 1}, {1, 1, 0, 0, 1}, {0, 0, 1, 0, 0}, {0, 0, 0, 0, 1}, {0, 1, 0, 1, 1}, {0, 2, 1, 2, 1},
            {0, 3, 1, 3, 0}, {0, 0, 0, 1, 0}, {0, 4, 1, 5, 1}, {0, 4, 0, 0, 0}};
        for (int[] call : calls) {
            Edge.check("alike " + call[0] + " " + call[1] + " " + call[2] + " " + call[3],
                    stage.alike(call[0], call[1], call[2], call[3]) ? 1 : 0, call[4]);
        }
        Edge.sentence("False also if there is none such");
        int[][] none = {{-1, 0, -1, 0}, {2, 0, 2, 0}, {0, 0, 2, 0}, {2, 0, 0, 0}, {0, 4, 2, 4}, {2, 4, 0, 4}, {0, -1, 0, -1},
            {0, 6, 0, 6}, {0, 4, 0, 6}, {0, 6, 0, 4}, {0, 4, 1, -1}, {0, -1, 1, 4}, {0, 4, -1, 4}, {-1, 4, 0, 4}};
        for (int[] call : none) {
            Edge.refused(stage, "alike " + call[0] + " " + call[1] + " " + call[2] + " " + call[3],
                    () -> stage.alike(call[0], call[1], call[2], call[3]) ? 1 : 0, 0);
        }
        for (int far : FAR) {
            Edge.check("alike", stage.alike(far, 4, far, 4) || stage.alike(0, far, 0, far) ? 1 : 0, 0);
            Edge.check("alike", stage.alike(0, 4, far, 4) || stage.alike(0, 4, 0, far) ? 1 : 0, 0);
        }
    }

    private static void outputs() {
        Game stage = stage();
        Edge.sentence("output: what 0 the frame, 1 what it is, 2 its number");
        Edge.check("said", Play.said(stage), "0:0:0 0:1:-1 0:10:9 0:1:5 0:1:5 1:1:6 1:1:6");
        Edge.sentence("output: NONE for others");
        int[][] wrong = {{-1, 0}, {7, 0}, {8, 0}, {199, 0}, {200, 0}, {0, -1}, {0, 3}, {6, 3}, {7, 3}};
        for (int[] call : wrong) {
            none(stage, "output(" + call[0] + ", " + call[1] + ")", () -> stage.output(call[0], call[1]));
        }
        for (int far : FAR) {
            Edge.check("output", stage.output(far, 0), Edge.NONE);
            Edge.check("output", stage.output(0, far), Edge.NONE);
        }
        Game full = Play.on(1, ": start " + Edge.repeat("7 say ", 201) + ";");
        Edge.check("entry 199", full.output(199, 2), 7);
        Edge.check("entry 200", full.output(200, 2), Edge.NONE);
        Edge.sentence("OUTPUT goes back with the stage");
        Game back = Play.on(1, ": start 0 new drop ; : t0 0 input while dup do dup say 1 - end drop ;");
        back.give(0, 0, 3);
        back.advance(2);
        Edge.check("said", Play.said(back), "0:1:3 0:1:2 0:1:1 1:1:3 1:1:2 1:1:1");
        Edge.check("again", back.give(0, 1, 1), 1);
        Edge.check("said", Play.said(back), "0:1:3 0:1:2 0:1:1 1:1:1");
        Edge.check("what was said in vain is not there", back.output(4, 1), Edge.NONE);
    }

    public static void main(String[] args) {
        newObjects();
        feeding();
        books();
        faults();
        asked();
        held();
        elements();
        alike();
        outputs();
        Play.finish();
    }
}
