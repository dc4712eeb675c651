/** Part III: the boundaries of the words of rows, actors and the world. */
public final class EdgesOfWordsTest {
    private static final String[] SORTS = {"ints", "reals", "flags", "smalls", "signs"};

    /** 1 .. n in a row of ints, left on the pile. */
    private static String counted(int n) {
        StringBuilder text = new StringBuilder(n + " ints");
        for (int i = 0; i < n; i++) {
            text.append(' ').append(i + 1).append(" over ").append(i).append(" put");
        }
        return text.toString();
    }

    private static String sayAll(int n) {
        StringBuilder text = new StringBuilder();
        for (int i = 0; i < n; i++) {
            text.append(" dup ").append(i).append(" at say");
        }
        return text.toString();
    }

    private static void sizes() {
        Edge.sentence("SIZE if n is below 0 or above 12");
        for (String sort : SORTS) {
            Edge.faults("-1 " + sort, Edge.SIZE);
            Edge.works("0 " + sort);
            Edge.works("12 " + sort);
            Edge.faults("13 " + sort, Edge.SIZE);
        }
        Edge.sentence("crew: SIZE likewise, then KIND if there is no KIND k");
        Edge.faults("-1 0 crew", Edge.SIZE);
        Edge.faults("13 0 crew", Edge.SIZE);
        Edge.faults("13 7 crew", Edge.SIZE);
        Edge.faults("-1 -1 crew", Edge.SIZE);
        Edge.faults("12 7 crew", Edge.KIND);
        Edge.faults("0 -1 crew", Edge.KIND);
        Edge.faults("0 " + Edge.number(Edge.MIN) + " crew", Edge.KIND);
        Edge.faults("0 " + Edge.number(Edge.MAX) + " crew", Edge.KIND);
        for (int kind = 0; kind < 7; kind++) {
            Edge.works("0 " + kind + " crew");
            Edge.works("12 " + kind + " crew");
        }
    }

    private static void places() {
        Edge.sentence("at r i: what is at place i; PLACE if there is none such");
        int[] sizes = {0, 1, 5, 12};
        for (String sort : new String[] {"ints", "reals", "flags", "smalls", "signs", "0 crew"}) {
            for (int n : sizes) {
                int[] wrong = {-1, n, n + 1, Edge.MIN, Edge.MAX};
                for (int i : wrong) {
                    Edge.faults(n + " " + sort + " " + Edge.number(i) + " at", Edge.PLACE);
                    String z = sort.equals("0 crew") ? "none " : "1 ";
                    Edge.faults(z + n + " " + sort + " " + Edge.number(i) + " put", Edge.PLACE);
                }
                if (n > 0) {
                    String z = sort.equals("0 crew") ? "none " : "1 ";
                    Edge.works(n + " " + sort + " 0 at");
                    Edge.works(n + " " + sort + " " + (n - 1) + " at");
                    Edge.works(z + n + " " + sort + " 0 put");
                    Edge.works(z + n + " " + sort + " " + (n - 1) + " put");
                }
            }
        }
        Edge.sentence("at: of flags, smalls, signs an INT");
        Edge.gives("1 ints 0 at say 1 reals 0 at say 1 flags 0 at say 1 smalls 0 at say 1 signs 0 at say 1 0 crew 0 at say",
                "1:0 2:0 1:0 1:0 1:0 0:0");
        Edge.sentence("of reals a NUMBER (made a REAL)");
        Edge.gives("1 reals 16777217 over 0 put 0 at say", Edge.real(16777216f));
        Edge.gives("1 reals -0.0 over 0 put 0 at say", Edge.real(-0f));
        Edge.sentence("then PLACE; then MIX if the ACTOR is not of the CREW's KIND or below");
        Edge.faults("1 new 2 2 crew 2 put", Edge.PLACE);
        Edge.faults("1 new 2 2 crew 1 put", Edge.MIX);
        Edge.faults("2 new 2 3 crew 0 put", Edge.MIX);
        Edge.works("3 new 2 3 crew 0 put");
        Edge.works("5 new 2 3 crew 0 put");
        Edge.gives("0 new 2 2 crew over mind! try 1 new over mind 0 put catch code say end 0 nth mind 0 at say", "1:5 0:0");
        Edge.sentence("twin r: a ROW like it");
        Edge.gives(counted(3) + " twin" + sayAll(3), "1:1 1:2 1:3");
        Edge.gives("0 ints twin len say 12 ints twin len say", "1:0 1:12");
        Edge.gives(counted(2) + " dup twin 9 over 0 put 0 at say 0 at say", "1:9 1:1");
        Edge.gives("1 3 crew twin 2 new swap try 0 put catch code say end", "1:5");
    }

    private static void copies(int i, int j, int n, String want) {
        Edge.gives(counted(5) + " dup " + i + " over " + j + " " + n + " copy" + sayAll(5), want);
    }

    private static void copyFaults(int i, int j, int n, int code) {
        Edge.faults("5 ints " + Edge.number(i) + " 4 ints " + Edge.number(j) + " " + Edge.number(n) + " copy", code);
    }

    private static void copying() {
        Edge.sentence("PLACE if n, i or j is below 0, or i + n, j + n are beyond the ends");
        copyFaults(0, 0, 4, 0);
        copyFaults(1, 0, 4, 0);
        copyFaults(2, 0, 4, Edge.PLACE);
        copyFaults(0, 1, 3, 0);
        copyFaults(0, 1, 4, Edge.PLACE);
        copyFaults(0, 0, 5, Edge.PLACE);
        copyFaults(0, 0, 0, 0);
        copyFaults(5, 4, 0, 0);
        copyFaults(6, 4, 0, Edge.PLACE);
        copyFaults(5, 5, 0, Edge.PLACE);
        copyFaults(5, 0, 1, Edge.PLACE);
        copyFaults(0, 4, 1, Edge.PLACE);
        copyFaults(-1, 0, 1, Edge.PLACE);
        copyFaults(0, -1, 1, Edge.PLACE);
        copyFaults(0, 0, -1, Edge.PLACE);
        copyFaults(-1, 0, 0, Edge.PLACE);
        copyFaults(0, -1, 0, Edge.PLACE);
        copyFaults(0, 0, 13, Edge.PLACE);
        copyFaults(Edge.MAX, 0, 1, Edge.PLACE);
        copyFaults(0, Edge.MAX, 1, Edge.PLACE);
        copyFaults(1, 0, Edge.MAX, Edge.PLACE);
        copyFaults(0, 1, Edge.MAX, Edge.PLACE);
        copyFaults(Edge.MIN, 0, Edge.MAX, Edge.PLACE);
        copyFaults(Edge.MIN, Edge.MIN, Edge.MIN, Edge.PLACE);
        copyFaults(5, 4, -1, Edge.PLACE);
        Edge.works("12 ints 0 12 ints 0 12 copy");
        Edge.faults("12 ints 1 12 ints 0 12 copy", Edge.PLACE);
        Edge.sentence("the places are copied as they were ahead of it");
        copies(0, 1, 4, "1:1 1:1 1:2 1:3 1:4");
        copies(1, 0, 4, "1:2 1:3 1:4 1:5 1:5");
        copies(0, 0, 5, "1:1 1:2 1:3 1:4 1:5");
        copies(0, 4, 1, "1:1 1:2 1:3 1:4 1:1");
        copies(4, 0, 1, "1:5 1:2 1:3 1:4 1:5");
        copies(2, 3, 0, "1:1 1:2 1:3 1:4 1:5");
        copies(0, 2, 3, "1:1 1:2 1:1 1:2 1:3");
        Edge.sentence("NOTHING if z, or z', is NONE; MIX if ..; PLACE if ..: in this order");
        Edge.faults("none -1 5 0 1 copy", Edge.NOTHING);
        Edge.faults("5 -1 none 0 1 copy", Edge.NOTHING);
        Edge.faults("5 -1 2 ints 0 1 copy", Edge.MIX);
        Edge.faults("2 ints -1 2 reals 0 1 copy", Edge.MIX);
        Edge.faults("2 ints -1 2 ints 0 1 copy", Edge.PLACE);
        crews();
    }

    private static void crews() {
        Edge.sentence("of CREWS MIX at the first ACTOR that the other's KIND does not bear: those ahead of it are copied");
        String from = "0 new 3 0 crew over mind! 2 new over mind 0 put 3 new over mind 1 put 1 new over mind 2 put ";
        for (int n = 0; n <= 3; n++) {
            String body = from + "3 2 crew over pal! try dup mind 0 0 nth pal 0 " + n + " copy catch code say drop end 0 nth pal";
            String[] want = {"0:0 0:0 0:0", "9:1 0:0 0:0", "9:1 9:2 0:0", "1:5 9:1 9:2 0:0"};
            Edge.gives(body + sayAll(3), want[n]);
        }
        Edge.gives(from + "3 2 crew over pal! try dup mind 2 0 nth pal 0 1 copy catch code say end 0 nth pal" + sayAll(3),
                "1:5 0:0 0:0 0:0");
        Edge.sentence("two CREWS are alike; NONE is borne by any");
        Edge.works("3 0 crew 0 3 6 crew 0 3 copy");
        Edge.works("3 6 crew 0 3 0 crew 0 3 copy");
        Edge.gives("0 new 2 6 crew over mind! 6 new over mind 0 put 2 0 crew over pal! dup mind 1 0 nth mind 0 1 copy"
                + " mind" + sayAll(2), "0:0 0:0");
    }

    private static void actors() {
        Edge.sentence("new: NONE if 16 are there, or 32 were made");
        Edge.gives(Edge.repeat("0 new drop ", 15) + "0 new say 0 new say", "9:15 0:0");
        Edge.gives(Edge.repeat("0 new gone ", 16) + "0 new say", "0:0");
        Edge.faults(Edge.repeat("0 new drop ", 16) + "7 new", Edge.KIND);
        Game stage = Play.on(1, ": start 0 new drop " + Edge.repeat("1 new drop ", 14) + "; : t0 1 new say 1 new say ;"
                + " : t1 me gone ;");
        stage.advance(1);
        Edge.check("the 16th, then none", Play.said(stage), "0:9:15 0:0:0");
        stage.advance(8);
        Edge.check("the last two of 32", Play.said(stage, stage.count(4) - 2), "8:9:30 8:9:31");
        Edge.check("made", stage.count(3), 32);
        stage.advance(1);
        Edge.check("then none, though there is room", Play.said(stage, stage.count(4) - 2), "9:0:0 9:0:0");
        Edge.check("on stage", stage.count(2), 1);
        Edge.sentence("is, as: KIND if there is no KIND k");
        for (String word : new String[] {"is", "as"}) {
            Edge.faults("none -1 " + word, Edge.KIND);
            Edge.works("none 0 " + word);
            Edge.works("none 6 " + word);
            Edge.faults("none 7 " + word, Edge.KIND);
            Edge.faults("0 new 7 " + word, Edge.KIND);
            Edge.faults("none " + Edge.number(Edge.MIN) + " " + word, Edge.KIND);
            Edge.faults("none " + Edge.number(Edge.MAX) + " " + word, Edge.KIND);
        }
        Edge.gives("none 0 is say 0 0 is say 0.0 0 is say 0 ints 0 is say 1 0 crew 0 is say 0 new 0 is say",
                "1:0 1:0 1:0 1:0 1:0 1:1");
        Edge.gives("none 6 as say 6 new 4 as say", "0:0 9:0");
        Edge.faults("4 new 6 as", Edge.KIND);
        Edge.sentence("nth i: the i-th ACTOR on stage, from 0 on; PLACE if there is none");
        Edge.faults("0 nth", Edge.PLACE);
        Edge.gives("0 new drop 1 new drop 0 nth say 1 nth say", "9:0 9:1");
        Edge.faults("0 new drop 1 new drop 2 nth", Edge.PLACE);
        Edge.faults("0 new drop -1 nth", Edge.PLACE);
        Edge.faults("0 new drop " + Edge.number(Edge.MIN) + " nth", Edge.PLACE);
        Edge.faults("0 new drop " + Edge.number(Edge.MAX) + " nth", Edge.PLACE);
        Edge.works(Edge.repeat("0 new drop ", 16) + "15 nth");
        Edge.faults(Edge.repeat("0 new drop ", 16) + "16 nth", Edge.PLACE);
        Edge.sentence("on a: 1 if it is on stage (gone or not), else 0");
        Game left = Play.on(1, ": start 0 new 1 new swap mind! ; : t0 me mind on say me mind gone me mind on say ;");
        left.advance(2);
        Edge.check("said", Play.said(left), "0:1:1 0:1:1 1:1:0 1:1:0");
        Edge.sentence("me: NONE in start; it: NONE but there");
        Edge.gives("me say it say", "0:0 0:0");
        Game two = Play.on(1, ": start 2 new drop 2 new drop ; : t2 me say it say ; : h2 me say it say ;");
        two.advance(1);
        Edge.check("said", Play.said(two), "0:9:0 0:0:0 0:9:1 0:0:0 0:9:0 0:9:1 0:9:1 0:9:0");
    }

    private static void parts() {
        Edge.sentence("mark letter worn step: NOTHING if that is NONE; PLACE");
        String[] parts = {"marks", "name", "wear", "way"};
        String[] own = {"flags", "signs", "smalls", "reals"};
        String[] words = {"mark", "letter", "worn", "step"};
        for (int w = 0; w < words.length; w++) {
            for (int n : new int[] {0, 1, 12}) {
                String made = "0 new " + n + " " + own[w] + " over " + parts[w] + "! ";
                for (int i : new int[] {-1, 0, n - 1, n, Edge.MIN, Edge.MAX}) {
                    int code = i >= 0 && i < n ? 0 : Edge.PLACE;
                    Edge.faults(made + Edge.number(i) + " " + words[w], code);
                    Edge.faults(made + "1 swap " + Edge.number(i) + " " + words[w] + "!", code);
                }
            }
            Edge.faults("0 new 0 " + words[w], Edge.NOTHING);
            Edge.faults("0 new -1 " + words[w], Edge.NOTHING);
            Edge.faults("1 0 new 0 " + words[w] + "!", Edge.NOTHING);
            Edge.faults("1 0 new -1 " + words[w] + "!", Edge.NOTHING);
            Edge.faults(own[w].equals("reals") ? "0 ints 0 new 0 step!" : "1.5 0 new 0 " + words[w] + "!", Edge.KIND);
            Edge.faults("0 new 1 " + own[w] + " over " + parts[w] + "! none over " + parts[w] + "! 0 " + words[w], Edge.NOTHING);
        }
        Edge.sentence("as by put: 1 if it is not 0; its lowest 16 bits; made a REAL");
        int[] values = {0, 1, 2, -1, 32767, 32768, -32768, -32769, 65535, 65536, Edge.MIN, Edge.MAX};
        for (int v : values) {
            String set = Edge.number(v) + " over 0 ";
            Edge.gives("0 new 1 flags over marks! " + set + "mark! 0 mark say", "1:" + (v == 0 ? 0 : 1));
            Edge.gives("0 new 1 signs over name! " + set + "letter! 0 letter say", "1:" + (v & 65535));
            Edge.gives("0 new 1 smalls over wear! " + set + "worn! 0 worn say", "1:" + (short) v);
            Edge.gives("0 new 1 reals over way! " + set + "step! 0 step say", Edge.real((float) v));
        }
        Edge.sentence("x! y! vx! vy!: made a REAL, its own");
        for (String word : new String[] {"x", "y", "vx", "vy"}) {
            Edge.gives("2 new 2 new dup 16777217 swap " + word + "! " + word + " say " + word + " say",
                    Edge.real(16777216f) + " 2:0");
            Edge.gives("2 new dup -0.0 swap " + word + "! " + word + " say", Edge.real(-0f));
            Edge.gives("2 new dup -1 unbits swap " + word + "! " + word + " say", Edge.real(Float.NaN));
        }
    }

    private static void output() {
        Edge.sentence("one more of OUTPUT (200 at most, what is more is lost)");
        for (int n = 198; n <= 202; n++) {
            Game stage = Play.on(1, ": start " + Edge.repeat("7 say ", n) + ";");
            int kept = Math.min(n, 200);
            Edge.check(n + " said", stage.count(4), kept);
            Edge.check("the last one", stage.output(kept - 1, 2), 7);
            Edge.check("none behind", stage.output(kept, 2), Edge.NONE);
        }
        Game stage = Play.on(1, ": start 0 new drop " + Edge.repeat("7 say ", 199) + "; : t0 3 raise ;");
        stage.advance(1);
        Edge.check("a fault is the 200th", Play.said(stage, 199), "0:10:9");
        stage.advance(1);
        Edge.check("the next is lost", stage.count(4), 200);
        Edge.check("and the 200th stays", Play.said(stage, 199), "0:10:9");
        Edge.check("but it hurts", stage.actor(0, 2), 2);
        Game dry = Play.on(1, ": start 0 new drop " + Edge.repeat("7 say ", 199) + "; : t0 frame if 1 say end while 1 do end ;");
        dry.advance(1);
        Edge.check("no fuel is the 200th", Play.said(dry, 199), "0:11:0");
        dry.advance(1);
        Edge.check("what is more is lost", Play.said(dry, 199), "0:11:0");
        Edge.sentence("what z is .. and its number: 0; the INT; the bits; the places; the NUMBER; the code");
        Edge.gives("none say -1 say -1.0 say 0 ints say 12 reals say 1 flags say 2 smalls say 3 signs say 4 6 crew say"
                + " 0 new say 0 new say try 1 raise catch say end", "0:0 1:-1 " + Edge.real(-1)
                + " 3:0 4:12 5:1 6:2 7:3 8:4 9:0 9:1 10:9");
    }

    private static void world() {
        Edge.sentence("input i: (0 .. 255; in start 0); PLACE if there is none");
        for (int players = 1; players <= 4; players++) {
            Game stage = Play.on(players, ": start 0 new drop try 0 input " + (players - 1) + " input + say " + players
                    + " input catch code say end ; : t0 " + (players - 1) + " input say try " + players
                    + " input catch code say end try -1 input catch code say end ;");
            Edge.check("in start", Play.said(stage), "0:1:0 0:1:2");
            stage.give(players - 1, 0, 255);
            stage.advance(1);
            Edge.check("in a frame", Play.said(stage, 2), "0:1:255 0:1:2 0:1:2");
        }
        Edge.faults(Edge.number(Edge.MIN) + " input", Edge.PLACE);
        Edge.faults(Edge.number(Edge.MAX) + " input", Edge.PLACE);
        Edge.sentence("dice n: SIZE if n is below 1");
        Edge.faults("0 dice", Edge.SIZE);
        Edge.faults("-1 dice", Edge.SIZE);
        Edge.faults(Edge.number(Edge.MIN) + " dice", Edge.SIZE);
        Edge.gives("1 dice say", "1:0");
        Edge.check("it moves the SEED", Play.on(1, ": start 1 dice ;").count(8), 1103515245 + 12345);
        Edge.check("with SIZE it does not", Play.on(1, ": start 0 dice ;").count(8), 1);
        Edge.sentence("SEED * 1103515245 + 12345 (it wraps), then it shifted right by 16 without sign, modulo n");
        StringBuilder body = new StringBuilder();
        StringBuilder want = new StringBuilder();
        int seed = 1;
        boolean below = false;
        for (int i = 0; i < 40; i++) {
            int n = i % 4 == 0 ? 1 : i % 4 == 1 ? 6 : i % 4 == 2 ? 65536 : 999999999;
            seed = seed * 1103515245 + 12345;
            below |= seed < 0;
            body.append(n).append(" dice say ");
            want.append(i == 0 ? "" : " ").append("1:").append((seed >>> 16) % n);
        }
        Edge.gives(body.toString(), want.toString());
        Edge.check("some seeds were below 0", below ? 1 : 0, 1);
        Edge.check("the last SEED", Play.on(1, ": start " + body + ";").count(8), seed);
        Edge.sentence("why f: the INT of RAISED, else 0");
        for (int why : new int[] {0, 1, -1, Edge.MIN, Edge.MAX}) {
            Edge.gives("try " + Edge.number(why) + " raise catch dup code say why say end", "1:9 1:" + why);
        }
        Edge.gives("try none len catch dup code say why say end", "1:1 1:0");
        Edge.gives("try 1 len catch dup code say why say end", "1:4 1:0");
        Edge.gives("try 7 raise catch try raise catch dup code say why say end end", "1:9 1:7");
        Edge.gives("try none len catch try raise catch dup code say why say end end", "1:1 1:0");
    }

    public static void main(String[] args) {
        sizes();
        places();
        copying();
        actors();
        parts();
        output();
        world();
        Play.finish();
    }
}
