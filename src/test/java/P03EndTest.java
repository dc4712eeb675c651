/** Promise 3: the tape has its first n bytes alone; NONE if it has fewer, or n is below 0. */
public final class P03EndTest {
    public static void main(String[] args) {
        Game stage = new Game(1);
        Play.check("end of none", stage.end(0), 0);
        Play.check("end beyond none", stage.end(1), RewindStage.NONE);
        stage.feed(1, 2, 3, 4, 5);
        String before = Play.all(stage);
        Play.check("end beyond", stage.end(21), RewindStage.NONE);
        Play.check("end below 0", stage.end(-1), RewindStage.NONE);
        Play.check("end far below", stage.end(Integer.MIN_VALUE), RewindStage.NONE);
        Play.check("end far beyond", stage.end(Integer.MAX_VALUE), RewindStage.NONE);
        Play.check("refused", Play.all(stage), before);
        Play.check("end of all", stage.end(20), 20);
        Play.check("end", stage.end(7), 7);
        Play.check("bytes", stage.count(7), 7);
        Play.check("cut is cut", stage.end(8), RewindStage.NONE);
        Play.check("end 0", stage.end(0), 0);
        Play.check("bytes", stage.count(7), 0);

        Game cut = new Game(1);
        Play.tape(cut, ": start 1 say ; junk");
        Play.check("end", cut.end(15), 15);
        Play.check("what is cut is not read", cut.book(), 1);
        Play.finish();
    }
}
