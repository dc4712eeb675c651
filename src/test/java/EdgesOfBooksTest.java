/** Part II: the boundaries of the tape, of words, names and numbers, and the faults of a book. */
public final class EdgesOfBooksTest {
    private static final int BLANKS = 0x20202020;

    private static int feedBlanks(Game stage) {
        return stage.feed(BLANKS, BLANKS, BLANKS, BLANKS, BLANKS);
    }

    private static void tape() {
        Edge.sentence("The TAPE has bytes, at most 4000");
        Game stage = new Game(1);
        for (int i = 1; i <= 199; i++) {
            feedBlanks(stage);
        }
        Edge.check("200 feeds", feedBlanks(stage), 4000);
        Edge.check("bytes", stage.count(7), 4000);
        Edge.refused(stage, "one feed more", () -> feedBlanks(stage), Edge.NONE);
        Edge.check("one byte less", stage.end(3999), 3999);
        Edge.refused(stage, "feed behind 3999", () -> feedBlanks(stage), Edge.NONE);
        Edge.check("nineteen bytes less", stage.end(3981), 3981);
        Edge.refused(stage, "feed behind 3981", () -> feedBlanks(stage), Edge.NONE);
        Edge.check("twenty bytes less", stage.end(3980), 3980);
        Edge.check("feed behind 3980", feedBlanks(stage), 4000);

        Edge.sentence("a BOOK of all 4000 bytes");
        String head = ": start";
        String tail = " 7 say ;";
        String full = head + Edge.repeat(" ", 4000 - head.length() - tail.length()) + tail;
        Game read = Play.on(1, full);
        Edge.check("its last byte was read", read.output(0, 2), 7);

        Edge.sentence("what reads it uses it up");
        Edge.check("tape of a good book", read.count(7), 0);
        Edge.check("feed behind it", feedBlanks(read), 20);
        Edge.check("a book with a fault", read.book(), Edge.NONE);
        Edge.check("tape of one with a fault", read.count(7), 0);
        Edge.check("of an empty tape", read.book(), Edge.NONE);
        Edge.check("what was read does not come again", read.fault(1), 0);
    }

    private static void blanks() {
        Edge.sentence("stand between blanks (32, 10; the ends, too)");
        Edge.goodBook(": a 1 ;");
        Edge.goodBook(":\na\n1\n;");
        Edge.goodBook("  :\n \na  1 \n\n ;  ");
        Edge.goodBook("\n: a ;\n");
        for (char other = 0; other < 256; other++) {
            // No blank, it makes one word of the two digits beside it: right only as a digit or a point.
            boolean number = other >= '0' && other <= '9' || other == '.';
            if (number) {
                Edge.goodBook(": a 1" + other + "1 ;");
            } else if (other != 32 && other != 10) {
                Edge.book(": a 1" + other + "1 ;", 1, 4);
            }
        }
    }

    private static void wordLengths() {
        Edge.sentence("10 bytes at most each; also one of 11 bytes");
        Edge.goodBook(": abcdefghij abcdefghij ;");
        Edge.book(": abcdefghijk ;", 1, 2);
        Edge.book(": abcdefghij abcdefghijk ;", 1, 13);
        Edge.book(": a 1 abcdefghijk ;", 1, 6);
        Edge.book(": a abcdefghijklmnopqrst ;", 1, 4);
        Edge.book("abcdefghijk", 1, 0);
        Edge.goodBook(": a -123456789 ;");
        Edge.book(": a -1234567890 ;", 1, 4);
        Edge.goodBook(": a -1234.5678 ;");
        Edge.book(": a -1234.56789 ;", 1, 4);
        Edge.book(": a -12345.6789 ;", 1, 4);
        Edge.book(": a 00000000001 ;", 1, 4);
        Edge.sentence("names of ten bytes that differ in the last one");
        Game stage = Play.on(1, ": abcdefghij 1 say ; : abcdefghii 2 say ; : start abcdefghii abcdefghij ;");
        Edge.check("said", Play.said(stage), "0:1:2 0:1:1");
    }

    private static String definitions(int n) {
        StringBuilder text = new StringBuilder();
        for (int i = 0; i < n; i++) {
            text.append(": n").append(i).append(" ; ");
        }
        return text.toString();
    }

    private static void definitionCounts() {
        Edge.sentence("DEFINITIONS, 1 .. 40");
        Edge.book("", 1, 0);
        for (int n = 1; n <= 40; n++) {
            Game stage = new Game(1);
            Edge.check("book", Play.read(stage, definitions(n)), n);
        }
        Edge.sentence("3 a 41st DEFINITION (at its :)");
        String forty = definitions(40);
        Edge.book(forty + ": z ;", 3, forty.length());
        Edge.book(forty + ":", 3, forty.length());
        Edge.book(forty + ": n0 ;", 3, forty.length());
        Edge.book(forty + ": 7", 3, forty.length());
        Edge.book(forty + "z", 1, forty.length());
        Edge.book(forty + ";", 1, forty.length());
        Edge.goodBook(forty + "\n ");
        Edge.book(definitions(39) + ": n0 ;", 2, definitions(39).length() + 2);
        // The name that is no definition comes behind all, so behind the 41st, too.
        Edge.book(forty.replace(": n0 ;", ": n0 q ;") + ": z ;", 3, forty.length() + 2);
    }

    private static void names() {
        Edge.sentence("NAME: letters a .. z and digits, a letter first");
        String[] right = {"a", "z", "a0", "z9", "az09", "aaaaaaaaaa", "start", "t0", "h6", "ifx", "en", "dupp", "i", "vxx"};
        for (String name : right) {
            Edge.goodBook(": " + name + " " + name + " ;");
        }
        String[] wrong = {"0", "9", "0a", "9z", "A", "Z", "aA", "`", "{", "a`", "a{", "a/", "a:", "@", "a!", "-a", "a-",
            "_", "a_", "\u0000", "a\u0000", "\u00e1", "a\u00ff", "a.", "1.0", ":", ";"};
        for (String name : wrong) {
            Edge.book(": " + name + " ;", 1, 2);
        }
        String[] noWord = {"0a", "9z", "A", "Z", "aA", "`", "{", "a`", "a{", "a/", "a:", "@", "a!", "-a", "a-", ":", "a.",
            "x!!", "!", "!x", "<<", "=>", ">", ">=", "==", "mind!!", "kind!", "len!", "say!", "++"};
        for (String name : noWord) {
            Edge.book(": a " + name + " ;", 1, 4);
        }
        Edge.sentence("no word of Part III");
        for (String word : Model.WORDS) {
            Edge.book(": " + word + " ;", 1, 2);
        }
    }

    private static void numbers() {
        Edge.sentence("an INT: perhaps -, 1 to 9 digits");
        String[] ints = {"0", "-0", "9", "-9", "999999999", "-999999999", "000000000", "000000001", "-000000001"};
        for (String number : ints) {
            Edge.gives(number + " say", "1:" + Integer.parseInt(number));
        }
        String[] none = {"1234567890", "0000000000", "--1", "1-", "+1", "-1-", "1-1", "0x1", "1a", "a-1"};
        for (String number : none) {
            Edge.book(": a " + number + " ;", 1, 4);
        }
        Edge.sentence("a REAL: perhaps -, 1 to 4 digits, a point, 1 to 4 digits");
        String[] reals = {"0.0", "9.9", "-9.9", "9999.9999", "-9999.9999", "0000.0000", "0.0001", "-0.0001", "0001.1000",
            "1.2345", "1234.5", "0.1", "8388.6085", "1234.5678"};
        for (String number : reals) {
            Edge.gives(number + " say", Edge.real(Float.parseFloat(number)));
        }
        String[] wrong = {"12345.0", "00000.0", "0.00000", "1.23456", ".5", "5.", "-.5", "-5.", ".", "-.", "1..5", "1.5.5",
            "1.-5", "--1.5", "+1.5", "1,5", "1.5-", "1.5e1", "1.a"};
        for (String number : wrong) {
            Edge.book(": a " + number + " ;", 1, 4);
        }
        Edge.sentence("-0.0 is -0");
        Edge.gives("-0.0 say 0.0 say", "2:" + Edge.MIN + " 2:0");
        Edge.gives("-0000.0000 say -0 say", "2:" + Edge.MIN + " 1:0");
    }

    private static void structures() {
        Edge.sentence("BODY: any number of: (none, too)");
        Edge.goodBook(": a ;");
        Edge.goodBook(": a if end ;");
        Edge.goodBook(": a if else end ;");
        Edge.goodBook(": a while do end ;");
        Edge.sentence("'if' BODY [ 'else' BODY ] 'end'");
        Edge.book(": a if ;", 1, 7);
        Edge.book(": a if else ;", 1, 12);
        Edge.book(": a if else else end ;", 1, 12);
        Edge.book(": a else end ;", 1, 4);
        Edge.book(": a end ;", 1, 4);
        Edge.book(": a if end end ;", 1, 11);
        Edge.book(": a if end else end ;", 1, 11);
        Edge.book(": a if do end ;", 1, 7);
        Edge.book(": a if catch end ;", 1, 7);
        Edge.book(": a if always end ;", 1, 7);
        Edge.sentence("'while' BODY 'do' BODY 'end'");
        Edge.book(": a while end ;", 1, 10);
        Edge.book(": a while ;", 1, 10);
        Edge.book(": a while do ;", 1, 13);
        Edge.book(": a while do do end ;", 1, 13);
        Edge.book(": a while else end ;", 1, 10);
        Edge.book(": a while do else end ;", 1, 13);
        Edge.book(": a do end ;", 1, 4);
        Edge.book(": a while do catch end ;", 1, 13);
        Edge.sentence("(one of the two at least)");
        Edge.book(": a try end ;", 1, 8);
        Edge.goodBook(": a try catch end ;");
        Edge.goodBook(": a try always end ;");
        Edge.goodBook(": a try catch always end ;");
        Edge.book(": a try always catch end ;", 1, 15);
        Edge.book(": a try catch catch end ;", 1, 14);
        Edge.book(": a try always always end ;", 1, 15);
        Edge.book(": a try catch always always end ;", 1, 21);
        Edge.book(": a try catch always catch end ;", 1, 21);
        Edge.book(": a try else end ;", 1, 8);
        Edge.book(": a try do end ;", 1, 8);
        Edge.book(": a try ;", 1, 8);
        Edge.book(": a try catch ;", 1, 14);
        Edge.book(": a catch end ;", 1, 4);
        Edge.book(": a always end ;", 1, 4);
    }

    private static void places() {
        Edge.sentence("the first from the left");
        Edge.book(": a ? ! ;", 1, 4);
        Edge.book(": a ; : a ? ;", 2, 8);
        Edge.book(": a ? ; : a ;", 1, 4);
        Edge.sentence("at the WORD's first byte");
        Edge.book("  ?", 1, 2);
        Edge.book(": abc ; : abc ;", 2, 10);
        Edge.book("\n\n:\n\n?bc", 1, 5);
        Edge.sentence("the text's length at the end");
        String[] open = {":", ": ", ": a", ": a ", ": a 1", ": a 1 \n", ": a if", ": a ; :", ": a while do", " ", "\n\n"};
        for (String text : open) {
            Edge.book(text, 1, text.length());
        }
        Edge.sentence("of an empty one 0");
        Edge.book("", 1, 0);
        Game stage = new Game(1);
        Play.tape(stage, ": a ;");
        Edge.check("all cut off", stage.end(0), 0);
        Edge.check("book", stage.book(), Edge.NONE);
        Edge.check("fault", stage.fault(0), 1);
        Edge.check("place", stage.fault(1), 0);
        Edge.sentence("2 a NAME of a DEFINITION that is one already");
        Edge.goodBook(": a ; : b ; : aa ; : a1 ;");
        Edge.book(": a ; : a ;", 2, 8);
        Edge.book(": a ; : b ; : a", 2, 14);
        Edge.book(": a a ; : b ; : b ;", 2, 16);
        Edge.sentence("of one WORD the least");
        Edge.book(": a ; : dup ;", 1, 8);
        Edge.book(": a " + Edge.repeat("1 ", 600) + "? ;", 1, 1204);
        Edge.book(": a " + Edge.repeat("1 ", 600) + "end ;", 1, 1204);
        Edge.book(": a " + Edge.repeat("1 ", 600) + "abcdefghijk ;", 1, 1204);
        Edge.book(": a " + Edge.repeat("1 ", 600) + ": ;", 1, 1204);
        Edge.book(": a " + Edge.repeat("1 ", 600) + "q ;", 3, 1204);
    }

    private static void depths() {
        Edge.sentence("a 13th of if, while, try within one another (at it)");
        String[] opens = {"if ", "while ", "try "};
        String[] ends = {"end ", "do end ", "always end "};
        for (int i = 0; i < opens.length; i++) {
            for (int inner = 0; inner < opens.length; inner++) {
                String eleven = Edge.repeat(opens[i], 11);
                String out = Edge.repeat(ends[i], 11);
                String deepest = opens[inner] + ends[inner];
                Edge.goodBook(": a " + eleven + deepest + deepest + out + ";");
                Edge.book(": a " + eleven + opens[i] + deepest + ends[i] + out + ";", 3, 4 + 12 * opens[i].length());
            }
        }
        // Parts of one structure are no deeper than it.
        Edge.goodBook(": a " + Edge.repeat("if else ", 12) + Edge.repeat("end ", 12) + ";");
        Edge.goodBook(": a " + Edge.repeat("while do ", 12) + Edge.repeat("end ", 12) + ";");
        Edge.goodBook(": a " + Edge.repeat("try catch always ", 12) + Edge.repeat("end ", 12) + ";");
        Edge.book(": a " + Edge.repeat("if else ", 12) + "while", 3, 4 + 12 * 8);
        Edge.goodBook(": a " + Edge.repeat("if ", 12) + Edge.repeat("end ", 12) + Edge.repeat("if ", 12)
                + Edge.repeat("end ", 12) + ";");
        Edge.goodBook(": a " + Edge.repeat("if end ", 13) + ";");
        Edge.goodBook(": a " + Edge.repeat("if ", 7) + Edge.repeat("end ", 7) + "; : b " + Edge.repeat("try ", 7)
                + Edge.repeat("catch end ", 7) + ";");
    }

    private static void wordCounts() {
        Edge.sentence("a 601st WORD of BODIES in all (at it; all words in BODIES count)");
        String[] words = {"1 ", "dup ", "a ", "1.5 ", "x! ", "leave "};
        for (String word : words) {
            int at = 4 + 600 * word.length();
            Edge.goodBook(": a " + Edge.repeat(word, 600) + ";");
            Edge.book(": a " + Edge.repeat(word, 601) + ";", 3, at);
        }
        Edge.goodBook(": a " + Edge.repeat("if end ", 300) + ";");
        Edge.book(": a " + Edge.repeat("if end ", 300) + "1 ;", 3, 4 + 2100);
        Edge.goodBook(": a " + Edge.repeat("if else end ", 200) + ";");
        Edge.book(": a " + Edge.repeat("if else end ", 200) + "if end ;", 3, 4 + 2400);
        Edge.goodBook(": a " + Edge.repeat("while do end ", 200) + ";");
        Edge.book(": a " + Edge.repeat("while do end ", 200) + "while do end ;", 3, 4 + 2600);
        Edge.goodBook(": a " + Edge.repeat("try catch always end ", 150) + ";");
        Edge.book(": a " + Edge.repeat("try catch always end ", 150) + "try always end ;", 3, 4 + 3150);
        Edge.book(": a " + Edge.repeat("1 ", 599) + "if end ;", 3, 4 + 1198 + 3);
        Edge.book(": a " + Edge.repeat("1 ", 598) + "if else end ;", 3, 4 + 1196 + 8);
        // In all: neither ':', names of definitions nor ';' are words of bodies.
        StringBuilder many = new StringBuilder();
        for (int i = 0; i < 40; i++) {
            many.append(": n").append(i).append(Edge.repeat(" 1", 15)).append(" ; ");
        }
        Edge.goodBook(many.toString());
        String more = many.substring(0, many.length() - 2);
        Edge.book(more + "1 ;", 3, more.length());
    }

    private static void allAreDone() {
        Edge.sentence("600 words in 40 DEFINITIONS: the last of all is done, too");
        StringBuilder many = new StringBuilder();
        for (int i = 0; i < 39; i++) {
            many.append(": n").append(i).append(Edge.repeat(" drop", 15)).append(" ; ");
        }
        Game stage = Play.on(1, many + ": start " + Edge.repeat("9 drop ", 6) + "7 8 say ;");
        Edge.check("definitions", stage.count(1), 40);
        Edge.check("said", Play.said(stage), "0:1:8");
        Game calls = Play.on(1, ": start n38 5 say 1 drop 1 drop 1 drop 1 drop 1 drop 1 drop ; "
                + many.toString().replace(": n38" + Edge.repeat(" drop", 15), ": n38" + Edge.repeat(" 1 drop", 6) + " 4 say leave"));
        Edge.check("said by the 40th", Play.said(calls), "0:1:4 0:1:5");
        Game whole = Play.on(1, ": start " + Edge.repeat("0 if 9 say end ", 119) + "0 if else say end ;");
        Edge.check("said behind 119 jumps", Play.said(whole), "0:10:7");
    }

    /** A book is read into what an earlier one was read into: nothing of that may be left. */
    private static void oneBehindTheOther() {
        Edge.sentence("what one BOOK has is not another's");
        Game stage = new Game(1);
        String most = ": a " + Edge.repeat("1 ", 600) + ";";
        for (int i = 0; i < 3; i++) {
            Edge.check("600 words each", Play.read(stage, most), 1);
            Edge.check("601 words", Play.read(stage, most.replace(";", "2 ;")), Edge.NONE);
            Edge.check("its place", stage.fault(1), 1204);
        }
        stage = new Game(1);
        for (int i = 0; i < 3; i++) {
            Edge.check("twelve deep, then wrong", Play.read(stage, ": a " + Edge.repeat("if ", 12)), Edge.NONE);
            Edge.check("twelve deep, then right", Play.read(stage, ": a " + Edge.repeat("if ", 12) + Edge.repeat("end ", 12)
                    + ";"), 1);
        }
        stage = new Game(1);
        String all = ": start 0 new drop 6 new drop 6 new drop ; : t0 1 say ; : t6 2 say ; : h6 3 say ; : h2 4 say ;";
        String none = ": begin 0 new drop ; : x0 9 say ;";
        String few = ": start 0 new drop 6 new drop 6 new drop ; : t5 9 say ; : h5 9 say ; : a ;";
        String[] books = {all, few, few, all, none, none, few, all, all, few, few};
        for (String text : books) {
            Play.read(stage, text);
            Edge.check("ran", stage.advance(1), 1);
            Edge.check("said by " + text, Play.said(stage), text.equals(all) ? "0:1:1 0:1:2 0:1:2 0:1:3 0:1:3" : "");
            Edge.check("actors of " + text, stage.count(3), text.equals(none) ? 0 : 3);
        }
    }

    private static void unknownNames() {
        Edge.sentence("Behind all: 2 at the first NAME of BODIES that is no DEFINITION");
        Edge.book(": a b ;", 2, 4);
        Edge.goodBook(": a b ; : b a ;");
        Edge.goodBook(": a a ;");
        Edge.book(": a b c ; : b ;", 2, 6);
        Edge.book(": a b c ; : c ;", 2, 4);
        Edge.book(": a if while b do c end end ; : b ;", 2, 18);
        Edge.book(": a b ; : a ;", 2, 10);
        Edge.book(": a b ; ?", 1, 8);
        Edge.book(": a b", 1, 5);
        Edge.book(": a b ; : c", 1, 11);
        Edge.book(": a b " + Edge.repeat("1 ", 600) + ";", 3, 6 + 1198);
        Edge.book(": a b ; : b ; : c aa a1 ;", 2, 18);
    }

    public static void main(String[] args) {
        tape();
        blanks();
        wordLengths();
        definitionCounts();
        names();
        numbers();
        structures();
        places();
        depths();
        wordCounts();
        unknownNames();
        allAreDone();
        oneBehindTheOther();
        Play.finish();
    }
}
