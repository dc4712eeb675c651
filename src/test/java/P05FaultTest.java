/** Promise 5: the latest book's fault and its place. */
public final class P05FaultTest {
    private static void fault(String text, int number, int place) {
        Game stage = new Game(1);
        int answer = Play.read(stage, text);
        boolean good = number == 0;
        Play.check("book of '" + text + "' is good", answer > 0 ? 1 : 0, good ? 1 : 0);
        Play.check("fault of '" + text + "'", stage.fault(0), number);
        Play.check("place of '" + text + "'", stage.fault(1), place);
    }

    private static void good(String text) {
        fault(text, 0, RewindStage.NONE);
    }

    private static String repeat(String text, int times) {
        StringBuilder all = new StringBuilder();
        for (int i = 0; i < times; i++) {
            all.append(text);
        }
        return all.toString();
    }

    private static void forms() {
        fault("", 1, 0);
        fault(" ", 1, 1);
        fault("\n \n", 1, 3);
        fault(";", 1, 0);
        fault(" a", 1, 1);
        fault(":", 1, 1);
        fault(": ", 1, 2);
        fault(": a", 1, 3);
        fault(": a \n", 1, 5);
        good(": a ;");
        good("\n:\na\n;\n");
        fault(":a ;", 1, 0);
        fault(": a;", 1, 2);
        fault(": a ; ;", 1, 6);
        fault(": a ; b", 1, 6);
        fault(": a : b ; ;", 1, 4);
        fault(": ; ;", 1, 2);
        fault(": : ;", 1, 2);
        fault(": a\t;", 1, 2);
        fault(": a\u0000 ;", 1, 2);
        fault(": a \u00ff ;", 1, 4);
        fault(": a ; : a ;", 2, 8);
        fault(": a x ; : b ; : a ;", 2, 16);
    }

    private static void names() {
        good(": abcdefghij ; : a1 ; : z9z9 ;");
        fault(": abcdefghijk ;", 1, 2);
        fault(": 1a ;", 1, 2);
        fault(": A ;", 1, 2);
        fault(": a! ;", 1, 2);
        fault(": a-b ;", 1, 2);
        for (String word : Model.WORDS) {
            fault(": " + word + " ;", 1, 2);
        }
        fault(": a b ;", 2, 4);
        good(": a b ; : b a ;");
        fault(": a b c d ; : c ;", 2, 4);
        fault(": a a b ; : d c ;", 2, 6);
        // A name of a body that is none comes behind all else.
        fault(": a b ; : a ;", 2, 10);
        fault(": a b ; x", 1, 8);
        fault(": a b", 1, 5);
        fault(": a Bc ;", 1, 4);
        fault(": a abcdefghijk ;", 1, 4);
        fault(": a b1 ; : b ;", 2, 4);
    }

    private static void numbers() {
        String[] right = {"0", "-0", "123456789", "-123456789", "000000000", "0.0", "-0.0", "9999.9999", "-9999.9999",
            "0001.0", "1.5000"};
        for (String number : right) {
            good(": a " + number + " ;");
        }
        String[] wrong = {"1234567890", "-", "--1", "+1", "1-", "1.", ".5", "-.5", "12345.0", "1.00000", "1.5.5", "1e5",
            "1.5f", "0x1", "1,5", "-1234567890", "1a", "1.-5", "-1.2345678"};
        for (String number : wrong) {
            if (number.equals("-")) {
                continue;
            }
            fault(": a " + number + " ;", 1, 4);
        }
        good(": a - ;");
    }

    private static void structures() {
        good(": a 1 if end ;");
        good(": a 1 if else end ;");
        good(": a while do end ;");
        good(": a try catch end try always end try catch always end ;");
        fault(": a 1 if ;", 1, 9);
        fault(": a end ;", 1, 4);
        fault(": a else ;", 1, 4);
        fault(": a do ;", 1, 4);
        fault(": a catch ;", 1, 4);
        fault(": a always ;", 1, 4);
        fault(": a if else else end ;", 1, 12);
        fault(": a if do end ;", 1, 7);
        fault(": a if catch end ;", 1, 7);
        fault(": a while end ;", 1, 10);
        fault(": a while do else end ;", 1, 13);
        fault(": a while do do end ;", 1, 13);
        fault(": a while else do end ;", 1, 10);
        fault(": a try end ;", 1, 8);
        fault(": a try else end ;", 1, 8);
        fault(": a try always catch end ;", 1, 15);
        fault(": a try catch catch end ;", 1, 14);
        fault(": a try always always end ;", 1, 15);
        fault(": a try catch always catch end ;", 1, 21);
        fault(": a if try end catch end ;", 1, 11);
        fault(": a if try catch else end end ;", 1, 17);
        fault(": a if", 1, 6);
        fault(": a try catch :", 1, 14);
    }

    private static void limits() {
        good(repeat(": a", 1) + " ;");
        StringBuilder defs = new StringBuilder();
        for (int i = 0; i < 40; i++) {
            defs.append(": n").append(i).append(" ; ");
        }
        good(defs.toString());
        fault(defs + ": n0 ;", 3, defs.length());
        fault(defs + ":", 3, defs.length());
        fault(defs + "x", 1, defs.length());
        fault(defs + "::", 1, defs.length());

        String[] opens = {"1 if ", "try ", "while "};
        String[] ends = {"end ", "catch end ", "do end "};
        for (int i = 0; i < 3; i++) {
            good(": a " + repeat(opens[i], 12) + repeat(ends[i], 12) + ";");
            int at = 4 + 12 * opens[i].length() + (i == 0 ? 2 : 0);
            fault(": a " + repeat(opens[i], 13) + repeat(ends[i], 13) + ";", 3, at);
        }
        good(": a " + repeat("1 if end ", 20) + ";");
        fault(": a " + repeat("1 if try ", 6) + "while", 3, 4 + 54);
        fault(": a " + repeat("1 if try ", 6) + "end", 1, 4 + 54);

        good(": a " + repeat("1 ", 600) + ";");
        fault(": a " + repeat("1 ", 601) + ";", 3, 4 + 1200);
        fault(": a " + repeat("1 ", 600) + "? ;", 1, 4 + 1200);
        fault(": a " + repeat("1 ", 600) + "end ;", 1, 4 + 1200);
        fault(": a " + repeat("1 ", 600) + "zz ;", 3, 4 + 1200);
        good(": a " + repeat("1 ", 300) + "; : b " + repeat("2 ", 300) + ";");
        fault(": a " + repeat("1 ", 300) + "; : b " + repeat("2 ", 301) + ";", 3, 4 + 600 + 6 + 600);
        good(": a " + repeat("1 if else end ", 150) + ";");
        fault(": a " + repeat("1 if else end ", 150) + "1 ;", 3, 4 + 150 * 14);
        good(": a " + repeat("while do end ", 200) + "; : b ;");
        fault(": a try catch always " + repeat("1 ", 596) + "1 end ;", 3, 4 + 17 + 1192 + 2);
    }

    public static void main(String[] args) {
        Game stage = new Game(1);
        Play.check("ahead of any", stage.fault(0), RewindStage.NONE);
        Play.check("ahead of any", stage.fault(1), RewindStage.NONE);
        Play.read(stage, ": a ? ;");
        Play.check("fault", stage.fault(0), 1);
        Play.check("place", stage.fault(1), 4);
        int[] others = {2, -1, 3, Integer.MIN_VALUE, Integer.MAX_VALUE};
        for (int what : others) {
            Play.check("fault(" + what + ")", stage.fault(what), RewindStage.NONE);
        }
        Play.read(stage, ": a ;");
        Play.check("latest", stage.fault(0), 0);
        Play.check("latest", stage.fault(1), RewindStage.NONE);
        forms();
        names();
        numbers();
        structures();
        limits();
        Play.finish();
    }
}
