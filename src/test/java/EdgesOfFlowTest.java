/** Part III: the boundaries of if, while, calls, try with its catch and always, and leave. */
public final class EdgesOfFlowTest {
    private static void book(String text, String want) {
        Edge.check(text, Play.said(Play.on(1, text)), want);
    }

    private static void choices() {
        Edge.sentence("if i: BODY, if i is not 0, else the other one");
        for (int i : new int[] {1, -1, 2, Edge.MIN, Edge.MAX, 256, 65536}) {
            Edge.gives(Edge.number(i) + " if 5 say else 6 say end", "1:5");
            Edge.gives(Edge.number(i) + " if 5 say end 7 say", "1:5 1:7");
            Edge.gives(Edge.number(i) + " while do 5 say 0 end", "1:5");
        }
        Edge.gives("0 if 5 say else 6 say end", "1:6");
        Edge.gives("0 if 5 say end 7 say", "1:7");
        Edge.gives("1 if else 6 say end 7 say", "1:7");
        Edge.sentence("while: .. do i: if i is not 0 the other one, and again; else it is done");
        for (int n = 0; n <= 3; n++) {
            Edge.gives(n + " while dup do 1 - 9 say end say", Edge.repeat("1:9 ", n) + "1:0");
        }
        Edge.gives("while 8 say 0 do 9 say end 7 say", "1:8 1:7");
        Edge.gives("2 while 8 say dup do 1 - end drop 7 say", "1:8 1:8 1:8 1:7");
    }

    /** A chain of so many definitions, each doing the next, the event's own among them. */
    private static String chain(String first, int calls, String last) {
        StringBuilder text = new StringBuilder(": " + first + " c1 ;");
        for (int i = 1; i < calls; i++) {
            text.append(" : c").append(i).append(' ').append(i == calls - 1 ? last : "c" + (i + 1)).append(" ;");
        }
        return text.toString();
    }

    private static void calls() {
        Edge.sentence("DEEP: of a NAME, a 13th of calls within one another (the event's is one)");
        book(chain("start", 11, "7 say"), "0:1:7");
        book(chain("start", 12, "7 say"), "0:1:7");
        book(chain("start", 13, "7 say"), "0:10:8");
        Game ticks = Play.on(1, ": start 2 new drop 2 new drop ; " + chain("t2", 12, "7 say") + " : h2 c1 8 say ;");
        ticks.advance(1);
        Edge.check("each event's calls are its own", Play.said(ticks), "0:1:7 0:1:7 0:1:7 0:1:8 0:1:7 0:1:8");
        Game deep = Play.on(1, ": start 2 new drop ; " + chain("t2", 13, "7 say"));
        deep.advance(1);
        Edge.check("a tick's 13th", Play.said(deep), "0:10:8");
        // Those that are done do not count: to their end, by leave, by a fault that was caught.
        book(chain("start", 11, "d d d 7 say") + " : d ;", "0:1:7");
        book(chain("start", 12, "d 7 say") + " : d ;", "0:10:8");
        book(": start 20 while dup do a 1 - end say ; : a ;", "0:1:0");
        book(": start 20 while dup do a 1 - end say ; : a leave ;", "0:1:0");
        book(": start 5 while dup do try a catch drop end 1 - end say ; : a b ; : b 1 raise ;", "0:1:0");
        book(": start 3 while dup do try a catch code say end 1 - end say ; : a a ;", "0:1:8 0:1:8 0:1:8 0:1:0");
        // What a call that is too deep leaves: it takes nothing and puts nothing.
        book(": start 5 try a catch code say end say ; : a a ;", "0:1:8 0:1:5");
    }

    /** Twelve calls with twelve tries open in each: the most that can stand open at once. */
    private static void mostOpen() {
        Edge.sentence("never ahead of what is always to be done: twelve tries in each of twelve calls");
        String body = Edge.repeat("try ", 12) + "a " + Edge.repeat("always 7 say end ", 12) + ";";
        book(": start " + body + " : a " + body, Edge.repeat("0:1:7 ", 144) + "0:10:8");
        String inner = Edge.repeat("try ", 12) + "a " + Edge.repeat("always end ", 11) + "always dup say end ;";
        book(": start 0 a 7 say ; : a 1 + dup 11 = if leave end " + inner, Edge.repeat("0:1:11 ", 10) + "0:1:7");
    }

    private static void cuts() {
        Edge.sentence("the PILE is cut to as many as it had at try, if it has more");
        Edge.gives("1 2 try 3 4 9 raise catch why say end say say", "1:9 1:2 1:1");
        Edge.gives("1 2 try 3 9 raise catch why say end say say", "1:9 1:2 1:1");
        Edge.gives("1 2 try 9 raise catch why say end say say", "1:9 1:2 1:1");
        Edge.gives("1 2 try drop 9 raise catch why say end say", "1:9 1:1");
        Edge.gives("1 2 try drop 5 9 raise catch why say end say say", "1:9 1:5 1:1");
        Edge.gives("1 2 try drop drop 9 raise catch why say end try say catch code say end", "1:9 1:7");
        Edge.gives("try 9 raise catch why say end try say catch code say end", "1:9 1:7");
        Edge.gives("1 try 2 catch end say say", "1:2 1:1");
        Edge.gives("1 try 2 9 raise always say end", "1:2 10:9");
        Edge.sentence("the FAULT is put on it (whatever it has: there may be more than 32 then)");
        String full = Edge.repeat("none ", 32);
        Edge.gives(Edge.repeat("none ", 31) + "try drop 1 2 3 catch code say end say", "1:8 1:1");
        Edge.gives(full + "try 1 catch code say end say", "1:8 0:0");
        Edge.gives(full + "try 1 catch try 1 catch code say end code say end say", "1:8 1:8 0:0");
        Edge.gives(full + Edge.repeat("try 1 catch ", 9) + Edge.repeat("code say end ", 9) + "say",
                Edge.repeat("1:8 ", 9) + "0:0");
        Edge.gives(full + "try 1 catch dup end", "10:8");
        Edge.gives(full + "try 1 catch swap say code say end say", "0:0 1:8 0:0");
        Edge.gives(full + "try 1 catch drop try none catch code say end end", "1:8");
        Edge.gives(full + "try 1 catch drop drop none say end 7 say", "0:0 1:7");
    }

    private static void alwaysParts() {
        Edge.sentence("Behind these, in whatever way they end (to their end, by a FAULT that passes on, by leave), the always-part");
        Edge.gives("try 1 say always 2 say end 3 say", "1:1 1:2 1:3");
        Edge.gives("try 9 raise catch drop 1 say always 2 say end 3 say", "1:1 1:2 1:3");
        Edge.gives("try 9 raise always 2 say end 3 say", "1:2 10:9");
        Edge.gives("try 9 raise catch raise always 2 say end 3 say", "1:2 10:9");
        Edge.gives("try leave always 2 say end 3 say", "1:2");
        Edge.gives("try 9 raise catch leave always 2 say end 3 say", "1:2");
        book(": start try a always 2 say end 3 say ; : a leave 4 say ;", "0:1:2 0:1:3");
        book(": start a 3 say ; : a try leave always 2 say end 4 say ;", "0:1:2 0:1:3");
        Edge.sentence("if it ends, what passed on passes on");
        Edge.gives("try try 9 raise always 2 say end 3 say catch why say end 4 say", "1:2 1:9 1:4");
        Edge.gives("try try 9 raise catch raise always 2 say end catch why say end", "1:2 1:9");
        Edge.gives("try try 9 raise always 5 if 2 say end try 1 raise catch drop end end catch why say end", "1:2 1:9");
        book(": start a 3 say ; : a try try leave always 1 say end 8 say always 2 say end 4 say ;", "0:1:1 0:1:2 0:1:3");
        Edge.sentence("a FAULT or leave of its own takes its place");
        Edge.gives("try try 9 raise always 8 raise end catch why say end", "1:8");
        Edge.gives("try try 1 say always 8 raise end catch why say end", "1:1 1:8");
        book(": start try a catch why say end 3 say ; : a try leave always 8 raise end ;", "0:1:8 0:1:3");
        book(": start try a 3 say catch why say end ; : a try 9 raise always leave end ;", "0:1:3");
        book(": start a 3 say ; : a try 9 raise always leave end 4 say ;", "0:1:3");
        book(": start a 3 say ; : a try 1 say always leave end 4 say ;", "0:1:1 0:1:3");
        Edge.gives("try try 9 raise always try 8 raise always 7 raise end end catch why say end", "1:7");
        // Neither its own catch-part nor its own always-part comes again.
        Edge.gives("try 9 raise catch 8 raise always 2 say end", "1:2 10:9");
        Edge.gives("try 9 raise catch drop always 2 say 8 raise end", "1:2 10:9");
        Edge.sentence("raise: of a FAULT that very one comes out of it");
        book(": start 0 new drop try 5 raise catch dup 0 nth mind! try raise catch 0 nth mind same say end end ;", "0:1:1");
        Edge.sentence("a FAULT that comes out of it: HURTS of the ACTOR is 1 more");
        Game stage = Play.on(1, ": start 0 new drop 1 new drop ; : t0 try 1 raise catch drop end ; : t1 try 1 raise always 2 drop end ;");
        stage.advance(2);
        Edge.check("one that is caught", stage.actor(0, 2), 0);
        Edge.check("one that passes on", stage.actor(1, 2), 2);
        Edge.check("said", Play.said(stage), "0:10:9 1:10:9");
    }

    private static void piles() {
        Edge.sentence("on a PILE, empty at first; An event has a PILE of its own");
        Edge.faults("drop", Edge.EMPTY);
        Game stage = Play.on(1, ": start 2 new drop 2 new drop 1 2 3 ; : t2 try drop catch code say end 4 ; : h2 try drop"
                + " catch code say end 5 ;");
        stage.advance(1);
        Edge.check("said", Play.said(stage), "0:1:7 0:1:7 0:1:7 0:1:7");
    }

    public static void main(String[] args) {
        choices();
        calls();
        mostOpen();
        cuts();
        alwaysParts();
        piles();
        Play.finish();
    }
}
