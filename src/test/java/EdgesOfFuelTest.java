/** Part III: the boundaries of FUEL: what just can be paid, and what just can't. */
public final class EdgesOfFuelTest {
    /** A body that costs so much: done with that fuel, over with one less; then what is left of that one less. */
    private static void costs(String body, int cost, int left) {
        String behind = " ; : d ; : e leave ;";
        Game enough = Play.on(1, ": start " + Edge.burn(500 - cost) + body + behind);
        Edge.check(body + " with " + cost, dry(enough), 0);
        Edge.check("left of " + cost + " for " + body, enough.count(9), 0);
        Game less = Play.on(1, ": start " + Edge.burn(501 - cost) + body + behind);
        Edge.check(body + " with " + (cost - 1), dry(less), 1);
        Edge.check("left of " + (cost - 1) + " for " + body, less.count(9), left);
    }

    /** Whether the last that was told is that the fuel was out. */
    private static int dry(Game stage) {
        int last = stage.count(4) - 1;
        return last >= 0 && stage.output(last, 1) == 11 && stage.output(last, 2) == 0 ? 1 : 0;
    }

    private static void inAll() {
        Edge.sentence("FUEL: 500 in a frame (start: 500)");
        Game most = Play.on(1, ": start " + Edge.repeat("1 drop ", 250) + ";");
        Edge.check("500 words", dry(most), 0);
        Edge.check("left", most.count(9), 0);
        Game more = Play.on(1, ": start " + Edge.repeat("1 drop ", 250) + "1 ;");
        Edge.check("501 words", dry(more), 1);
        Edge.check("left", more.count(9), 0);
        Game frame = Play.on(1, ": start 0 new drop ; : t0 " + Edge.repeat("1 drop ", 250) + ";");
        frame.advance(1);
        Edge.check("500 words of a frame", frame.count(4), 0);
        Edge.check("left", frame.count(9), 0);
        frame.advance(1);
        Edge.check("and 500 of the next", frame.count(4), 0);
        Game over = Play.on(1, ": start 0 new drop ; : t0 " + Edge.repeat("1 drop ", 250) + "leave ;");
        over.advance(1);
        Edge.check("501 words of a frame", Play.said(over), "0:11:0");
        Game two = Play.on(1, ": start 0 new drop 0 new drop ; : t0 " + Edge.repeat("1 drop ", 125) + ";");
        two.advance(1);
        Edge.check("two events of 250", two.count(4) + two.count(9), 0);
        Game three = Play.on(1, ": start 0 new drop 0 new drop 1 new drop ; : t0 " + Edge.repeat("1 drop ", 125) + "; : t1 ;");
        three.advance(1);
        Edge.check("an empty event behind them costs nothing", three.count(4) + three.count(9), 0);
    }

    private static void words() {
        Edge.sentence("Each word that is done costs 1 (also a number, a NAME, if, do, try; not else, end, catch, always, while)");
        costs("1", 1, 0);
        costs("1.5", 1, 0);
        costs("none", 1, 0);
        costs("d", 1, 0);
        costs("d d", 2, 0);
        costs("e", 2, 0);
        costs("leave", 1, 0);
        costs("leave 1 2 3", 1, 0);
        costs("1 if end", 2, 0);
        costs("1 if else end", 2, 0);
        costs("0 if else end", 2, 0);
        costs("0 if else 1 end", 3, 0);
        costs("while 0 do end", 2, 0);
        costs("1 while do 0 end", 4, 0);
        costs("try catch end", 1, 0);
        costs("try always end", 1, 0);
        costs("try catch always end", 1, 0);
        costs("try 1 catch 2 3 always 4 end", 3, 0);
        costs("6 dice", 2, 0);
        costs("none say", 2, 0);
    }

    private static void faults() {
        Edge.sentence("A FAULT costs 40, as it comes out of its word (of raise, too; not as it passes on)");
        costs("drop", 41, 39);
        costs("1 raise", 42, 39);
        costs("none raise", 42, 39);
        costs("1 0 /", 43, 39);
        costs("try drop catch end", 42, 39);
        costs("try 1 raise catch end", 43, 39);
        costs("try 1 raise catch raise end", 84, 39);
        costs("try try try 1 raise always end always end catch end", 45, 39);
        costs("try try drop always end catch end", 43, 39);
        costs("try d drop catch end", 43, 39);
    }

    private static void rows() {
        Edge.sentence("They cost n more");
        for (String sort : new String[] {"ints", "reals", "flags", "smalls", "signs"}) {
            costs("0 " + sort, 2, 0);
            costs("1 " + sort, 3, 0);
            costs("5 " + sort, 7, 4);
            costs("12 " + sort, 14, 11);
        }
        costs("0 3 crew", 3, 0);
        costs("1 3 crew", 4, 0);
        costs("12 3 crew", 15, 11);
        Edge.sentence("twin r: costs as many more");
        costs("0 ints twin", 3, 0);
        costs("5 ints twin", 13, 4);
        costs("12 0 crew twin", 28, 11);
        Edge.sentence("of rows: SIZE, KIND ahead of it");
        costs("13 ints", 42, 39);
        costs("-1 ints", 42, 39);
        costs("13 0 crew", 43, 39);
        costs("12 7 crew", 43, 39);
        costs("12 -1 crew", 43, 39);
        costs("none ints", 42, 39);
        costs("1.0 ints", 42, 39);
        costs("none twin", 42, 39);
    }

    private static void copies() {
        Edge.sentence("Costs n more, if n is 1 .. 12 (also with a FAULT)");
        String two = "0 ints 0 0 ints 0 ";
        costs("0 ints 0 0 ints 0 0 copy", 8, 0);
        costs("1 ints 0 1 ints 0 1 copy", 11, 0);
        costs("12 ints 0 12 ints 0 12 copy", 44, 11);
        costs(two + "1 copy", 8 + 1 + 40, 39);
        costs(two + "12 copy", 8 + 12 + 40, 39);
        costs(two + "13 copy", 8 + 40, 39);
        costs(two + "-1 copy", 8 + 40, 39);
        costs("none 0 none 0 1 copy", 6 + 1 + 40, 39);
        costs("none 0 none 0 12 copy", 6 + 12 + 40, 39);
        costs("none 0 none 0 13 copy", 6 + 40, 39);
        costs("none 0 none 0 0 copy", 6 + 40, 39);
        costs("1 0 2 0 5 copy", 6 + 5 + 40, 39);
        Edge.sentence("of copy: NOTHING, MIX, PLACE behind it");
        Game stage = Play.on(1, ": start " + Edge.burn(490) + "none 0 none 0 5 copy ;");
        Edge.check("not even the five can be paid", Play.said(stage), "0:11:0");
        Edge.check("what there is stays", stage.count(9), 4);
        costs("none 0 none 0 1.0 copy", 6 + 40, 39);
        costs("none none none 0 5 copy", 6 + 40, 39);
    }

    private static void atOnce() {
        Edge.sentence("the event is over at once (what there is stays)");
        Game stage = Play.on(1, ": start " + Edge.burn(491) + "7 say 8 ints 9 say ;");
        Edge.check("said", Play.said(stage), "0:1:7 0:11:0");
        Edge.check("left", stage.count(9), 5);
        Edge.sentence("no always-part either (OUTPUT: 11, 0)");
        Game last = Play.on(1, ": start " + Edge.burn(460) + "try drop catch 1 say always 2 say end 3 say ;");
        Edge.check("a fault that can't be paid is not caught", Play.said(last), "0:11:0");
        Edge.check("left", last.count(9), 38);
        Game always = Play.on(1, ": start " + Edge.burn(497) + "try 1 drop 5 always 2 say end ;");
        Edge.check("nor is an always-part done", Play.said(always), "0:11:0");
        Game within = Play.on(1, ": start " + Edge.burn(495) + "try 1 drop always 2 say 3 say end ;");
        Edge.check("one that was begun ends", Play.said(within), "0:1:2 0:11:0");
        Game outer = Play.on(1, ": start try a catch 1 say always 2 say end ; : a while 1 do end ;");
        Edge.check("nor those of the calls around", Play.said(outer), "0:11:0");
    }

    private static void noEventMore() {
        String loop = "while 1 do end";
        String three = ": start 2 new drop 2 new drop 2 new drop ; ";
        Edge.sentence("no event more is done in this frame");
        for (int who = 0; who < 3; who++) {
            Game stage = Play.on(1, three + ": t2 me say me " + who + " nth same if " + loop + " end ; : h2 8 say ;");
            stage.advance(1);
            String want = "0:9:0 " + (who > 0 ? "0:9:1 " : "") + (who > 1 ? "0:9:2 " : "") + "0:11:0";
            Edge.check("tick " + who, Play.said(stage), want);
            Edge.check("none is hurt", stage.actor(who, 2), 0);
            Edge.check("all moved", stage.actor(2, 4), Float.floatToIntBits(0.25f));
            Edge.check("the frame is 1 more", stage.count(0), 1);
            stage.advance(1);
            Edge.check("the next frame has events", stage.output(stage.count(4) - 1 - who - 1, 1), 9);
        }
        String[] touches = {"0:9:0 0:11:0", "0:9:0 0:9:1 0:11:0"};
        for (int who = 0; who < 2; who++) {
            Game stage = Play.on(1, three + ": h2 me say me " + who + " nth same if " + loop + " end ;");
            stage.advance(1);
            Edge.check("touch of " + who, Play.said(stage), touches[who]);
        }
        Game gone = Play.on(1, three + ": t2 me gone " + loop + " ;");
        gone.advance(1);
        Edge.check("those gone leave all the same", gone.count(2), 2);
        Game start = Play.on(1, ": start 2 new drop " + loop + " ; : t2 7 say ;");
        Edge.check("start", Play.said(start), "0:11:0");
        start.advance(1);
        Edge.check("frame 0 has its own", Play.said(start), "0:11:0 0:1:7");
        Game exact = Play.on(1, ": start 2 new drop 2 new drop ; : t2 me 0 nth same if " + Edge.burn(493) + "1 end ;");
        exact.advance(1);
        Edge.check("fuel that is just used up is not out", exact.count(9), 0);
        Edge.check("but the next event's first word", Play.said(exact), "0:11:0");
    }

    /** Rows and faults as many as the fuel pays for, in each frame and each start: there is room for all. */
    private static void plenty() {
        Edge.sentence("All memory is the class's own: what the FUEL pays for can be made");
        String rows = Edge.repeat("0 ints drop ", 160);
        Game stage = Play.on(1, ": start 0 new dup 3 ints swap mind! 7 swap mind 1 put ; : t0 " + rows
                + "2 ints 5 over 0 put me pal! ;");
        for (int frame = 0; frame < 30; frame++) {
            stage.give(0, frame, 0);
            Edge.check("frame " + frame, stage.advance(1), 1);
            Edge.check("no fault, and fuel", stage.count(4), 0);
            Edge.check("what is kept", stage.element(0, 0, 1), 7);
            Edge.check("what is new", stage.element(0, 1, 0), 5);
            Edge.check("not the other", stage.alike(0, 0, 0, 1) ? 1 : 0, 0);
        }
        Edge.check("fuel", stage.count(9), 500 - 480 - 10);
        Game books = new Game(1);
        for (int i = 0; i < 20; i++) {
            Play.read(books, ": start 60 while dup do 0 ints drop 1 - end 0 new 1 ints swap mind! ;");
            Edge.check("no fault, and fuel", books.count(4), 0);
            Edge.check("what is new", books.held(0, 0, 1), 1);
        }
        Game faults = Play.on(1, ": start 0 new drop ; : t0 " + Edge.repeat("try drop catch me mind! end ", 11) + ";");
        for (int frame = 0; frame < 12; frame++) {
            faults.advance(1);
            Edge.check("fault " + frame, faults.held(0, 0, 1), 7);
            Edge.check("none passed on", faults.count(4), 0);
        }
        held();
    }

    /** Thirty-two actors with six things each, as many as there can be, and rows besides. */
    private static void held() {
        Game stage = Play.on(1, ": start 0 new drop ; : t0 1 new drop 1 new drop 1 new drop ;"
                + " : t1 1 ints dup me kind 5 + swap 0 put me mind! try 3 raise catch me pal! end 1 flags me marks!"
                + " 1 signs me name! 1 smalls me wear! 1 reals me way! me gone ;");
        stage.advance(12);
        Edge.check("made", stage.count(3), 32);
        for (int a = 1; a < 32; a++) {
            int[] sorts = {3, 10, 5, 7, 6, 4};
            for (int part = 0; part < 6; part++) {
                Edge.check("part " + part + " of " + a, stage.held(a, part, 0), sorts[part]);
            }
            Edge.check("the place", stage.element(a, 0, 0), 6);
        }
        Edge.check("run again", stage.give(0, 2, 1), 10);
        Edge.check("the last one's", stage.element(31, 0, 0), 6);
        Edge.check("the first one's", stage.element(1, 0, 0), 6);
        Edge.check("not one thing", stage.alike(31, 0, 1, 0) ? 1 : 0, 0);
    }

    public static void main(String[] args) {
        inAll();
        words();
        faults();
        rows();
        copies();
        atOnce();
        noEventMore();
        plenty();
        Play.finish();
    }
}
