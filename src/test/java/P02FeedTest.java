/** Promise 2: twenty bytes behind the tape, the highest of each number first; NONE beyond 4000. */
public final class P02FeedTest {
    private static int number(String four) {
        int number = 0;
        for (int i = 0; i < 4; i++) {
            number = number << 8 | four.charAt(i);
        }
        return number;
    }

    public static void main(String[] args) {
        Game stage = new Game(1);
        int fed = stage.feed(number(": st"), number("art "), number("7 sa"), number("y ; "), number("    "));
        Play.check("feed", fed, 20);
        Play.check("bytes", stage.count(7), 20);
        Play.check("book", stage.book(), 1);
        Play.check("said", stage.output(0, 2), 7);
        Play.check("used up", stage.count(7), 0);

        // Bytes above 127 are bytes as any: words of the book, and no blanks.
        Play.check("feed", stage.feed(0x3a20ffff, -1, Integer.MIN_VALUE, 0, 0), 20);
        Play.check("book", stage.book(), RewindStage.NONE);
        Play.check("place", stage.fault(1), 2);

        Game full = new Game(1);
        for (int i = 1; i <= 200; i++) {
            Play.check("feed " + i, full.feed(0x20202020, 0x20202020, 0x20202020, 0x20202020, 0x20202020), 20 * i);
        }
        String before = Play.all(full);
        Play.check("feed beyond", full.feed(1, 2, 3, 4, 5), RewindStage.NONE);
        Play.check("refused", Play.all(full), before);
        Play.check("end", full.end(3981), 3981);
        Play.check("feed beyond", full.feed(1, 2, 3, 4, 5), RewindStage.NONE);
        Play.check("end", full.end(3980), 3980);
        Play.check("feed up to the end", full.feed(0x20202020, 0x20202020, 0x20202020, 0x20202020, 0x20202020), 4000);
        Play.check("book of blanks", full.book(), RewindStage.NONE);
        Play.check("fault", full.fault(0), 1);
        Play.check("place", full.fault(1), 4000);

        // Two feeds stand one behind the other, as one text.
        Game two = new Game(1);
        Play.tape(two, ": start 12345 say  ;");
        Play.check("bytes", two.count(7), 20);
        two.end(10);
        two.feed(number("67 s"), number("ay ;"), number("    "), number("    "), number("    "));
        Play.check("bytes", two.count(7), 30);
        Play.check("book", two.book(), 1);
        Play.check("said", two.output(0, 2), 1267);
        Play.finish();
    }
}
