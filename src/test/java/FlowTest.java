/** Part III: if, while, names, leave, and try with its catch and always. */
public final class FlowTest {
    private static void gives(String body, String want) {
        Play.says(body, want);
    }

    private static void book(String book, String want) {
        Play.check(book, Play.said(Play.on(1, book)), want);
    }

    private static void choices() {
        gives("1 if 5 say end", "1:5");
        gives("0 if 5 say end 6 say", "1:6");
        gives("-1 if 5 say else 6 say end 7 say", "1:5 1:7");
        gives("0 if 5 say else 6 say end 7 say", "1:6 1:7");
        gives("0 if else end 7 say", "1:7");
        gives("1 0 if if 3 say end else 4 say end say", "1:4 1:1");
        gives("3 while dup do dup say 1 - end say", "1:3 1:2 1:1 1:0");
        gives("while 0 do 5 say end 6 say", "1:6");
        gives("2 while dup do 2 while dup do over say 1 - end drop 1 - end drop", "1:2 1:2 1:1 1:1");
        gives("try if end catch code say end", "1:7");
        gives("try none if end catch code say end", "1:1");
        gives("try 1.0 if end catch code say end", "1:4");
        gives("try while do end catch code say end", "1:7");
        gives("try while none do end catch code say end", "1:1");
        gives("try while 0 nth do end catch code say end", "1:2");
    }

    private static void calls() {
        book(": start 2 sq say ; : sq dup * ;", "0:1:4");
        book(": start a 3 say ; : a 1 say leave 2 say ;", "0:1:1 0:1:3");
        book(": start 1 say leave 2 say ;", "0:1:1");
        book(": start 3 while dup do a 1 - end ; : a dup 2 = if leave end dup say ;", "0:1:3 0:1:1");
        book(": start 3 while dup do dup 2 = if leave end dup say 1 - end ;", "0:1:3");
        // The event's call is one of twelve.
        book(": start 0 a ; : a 1 + dup say a ;",
                "0:1:1 0:1:2 0:1:3 0:1:4 0:1:5 0:1:6 0:1:7 0:1:8 0:1:9 0:1:10 0:1:11 0:10:8");
        book(": start 0 try a catch code say end b ; : a 1 + a ; : b 7 say ;", "0:1:8 0:1:7");
        book(": start 20 while dup do a 1 - end say ; : a b ; : b c ; : c ;", "0:1:0");
        book(": start try a catch why say end ; : a b ; : b 1 if 6 raise end ;", "0:1:6");
        book(": start 5 a say say ; : a dup 1 + ;", "0:1:6 0:1:5");
    }

    private static void tries() {
        gives("try 1 say catch 2 say end 3 say", "1:1 1:3");
        gives("try 1 say 5 raise 4 say catch why say end 3 say", "1:1 1:5 1:3");
        gives("try 1 say always 2 say end 3 say", "1:1 1:2 1:3");
        gives("try 1 say catch 9 say always 2 say end 3 say", "1:1 1:2 1:3");
        gives("try 5 raise catch why say always 2 say end 3 say", "1:5 1:2 1:3");
        gives("try 5 raise always 2 say end 3 say", "1:2 10:9");
        gives("try 5 raise catch raise end 3 say", "10:9");
        gives("try 5 raise catch 1 0 / always 2 say end 3 say", "1:2 10:6");
        gives("try try 5 raise always 2 say end catch why say end", "1:2 1:5");
        gives("try try 5 raise always 6 raise end catch why say end", "1:6");
        gives("try try 5 raise always 1 0 / end catch code say end", "1:6");
        gives("try try 5 raise catch 7 raise always 6 raise end catch why say end", "1:6");
        gives("try try try 5 raise always 1 say end always 2 say end catch why say always 3 say end", "1:1 1:2 1:5 1:3");
        gives("try 5 raise catch try 6 raise catch why say end why say end", "1:6 1:5");
        gives("try try 5 raise catch why say 6 raise end catch why say end", "1:5 1:6");
        // A fault of a catch-part is not caught by its own try.
        gives("3 while dup do try dup raise catch why say always 7 say end 1 - end", "1:3 1:7 1:2 1:7 1:1 1:7");
        gives("try 5 raise always try 6 raise catch why say end end 3 say", "1:6 10:9");
    }

    private static void leaves() {
        book(": start a 3 say ; : a try leave always 2 say end 9 say ;", "0:1:2 0:1:3");
        book(": start a 3 say ; : a try leave catch 8 say end 9 say ;", "0:1:3");
        book(": start a 3 say ; : a try 5 raise catch leave always 2 say end 9 say ;", "0:1:2 0:1:3");
        // A leave in always takes the fault's place, a fault takes the leave's.
        book(": start a 3 say ; : a try 5 raise always leave end 9 say ;", "0:1:3");
        book(": start try a catch why say end 3 say ; : a try leave always 6 raise end 9 say ;", "0:1:6 0:1:3");
        book(": start a 3 say ; : a try try leave always 1 say end always 2 say end 9 say ;", "0:1:1 0:1:2 0:1:3");
        book(": start a 3 say ; : a try b always 2 say end 9 say ; : b leave 8 say ;", "0:1:2 0:1:9 0:1:3");
        book(": start try leave always 2 say end 3 say ;", "0:1:2");
        book(": start try try 5 raise always leave end always 2 say end 3 say ;", "0:1:2");
        book(": start a 3 say ; : a try 5 raise catch drop try leave always 1 say end always 2 say end ;",
                "0:1:1 0:1:2 0:1:3");
        book(": start a 3 say ; : a 2 while dup do try leave always 1 say end end ;", "0:1:1 0:1:3");
        // What passes on through an always-part that catches within itself.
        book(": start a ; : a try 5 raise always try 1 0 / catch code say end b end ; : b leave ;", "0:1:6 0:10:9");
    }

    private static String repeat(String text, int times) {
        StringBuilder all = new StringBuilder();
        for (int i = 0; i < times; i++) {
            all.append(text);
        }
        return all.toString();
    }

    /** As deep as the document lets them: twelve within one another, in each of twelve calls. */
    private static void depths() {
        gives(repeat("1 if ", 11) + "0 if 5 say else 6 say end " + repeat("7 say else 8 say end ", 11),
                "1:6" + repeat(" 1:7", 11));
        gives(repeat("0 if 5 say else ", 12) + "6 say " + repeat("end ", 12) + "7 say", "1:6 1:7");
        gives(repeat("1 while dup do 1 - ", 12) + "3 say " + repeat("end drop ", 12) + "4 say", "1:3 1:4");
        gives(repeat("try ", 12) + "5 raise " + repeat("always 6 say end ", 12), repeat("1:6 ", 12) + "10:9");
        gives(repeat("try ", 12) + "5 raise " + repeat("catch raise end ", 9) + repeat("always end ", 2) + "catch why say end", "1:5");
        String tries = repeat("try ", 12);
        book(": start " + tries + "a " + repeat("always end ", 12) + "; : a " + tries + "a " + repeat("always end ", 12)
                + ";", "0:10:8");
        book(": start " + tries + "a " + repeat("always end ", 11) + "catch code say end 7 say ; : a " + tries + "a "
                + repeat("always end ", 12) + ";", "0:1:8 0:1:7");
        book(": start 0 " + tries + "a " + repeat("always end ", 12) + "say ; : a 1 + dup 11 = if leave end "
                + repeat("try ", 12) + "a " + repeat("always end ", 12) + ";", "0:1:11");
    }

    private static void piles() {
        // Cut to what the pile had at try, if it has more.
        gives("1 try 2 3 4 5 raise catch why say end say", "1:5 1:1");
        gives("1 2 3 try drop drop 5 raise catch why say end say", "1:5 1:1");
        gives("1 2 try drop 7 8 9 5 raise catch why say end say say", "1:5 1:7 1:1");
        gives("1 try 2 5 raise always say end", "1:2 10:9");
        gives("1 try 2 always say end say", "1:2 1:1");
        gives("1 try 2 catch end say say", "1:2 1:1");
        // The values that a word took are gone with it; one that finds too few takes none.
        gives("1 2 none try + catch code say end say", "1:1 1:1");
        gives("4 try + catch code say end say", "1:7 1:4");
        book(": start 1 try 2 3 a catch drop end say ; : a 4 5 raise ;", "0:1:1");
        Game stage = Play.on(1, ": start 0 new drop 0 new drop ; : t0 try say catch code say end 5 ;");
        stage.advance(1);
        Play.check("each event has a pile of its own", Play.said(stage), "0:1:7 0:1:7");
    }

    public static void main(String[] args) {
        choices();
        calls();
        tries();
        leaves();
        depths();
        piles();
        Play.finish();
    }
}
