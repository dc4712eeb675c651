import java.util.function.IntSupplier;

/** What the tests of the document's boundary sentences share; each names the sentence that it holds. */
final class Edge {
    static final int NONE = RewindStage.NONE;
    static final int MIN = Integer.MIN_VALUE;
    static final int MAX = Integer.MAX_VALUE;

    static final int NOTHING = 1;
    static final int PLACE = 2;
    static final int SIZE = 3;
    static final int KIND = 4;
    static final int MIX = 5;
    static final int ZERO = 6;
    static final int EMPTY = 7;
    static final int DEEP = 8;
    static final int RAISED = 9;

    private static String sentence = "";

    private Edge() {
    }

    /** The sentence of the document that the checks behind it are about. */
    static void sentence(String words) {
        sentence = "'" + words + "': ";
    }

    static void check(String what, long got, long want) {
        Play.check(sentence + what, got, want);
    }

    static void check(String what, String got, String want) {
        Play.check(sentence + what, got, want);
    }

    static String repeat(String text, int times) {
        return text.repeat(Math.max(0, times));
    }

    /** What a body of start says, as "what:number ...". */
    static void gives(String body, String want) {
        check(body, Play.says(body), want);
    }

    /** The code of the fault that comes out of a body; 0 if none does, 11 without fuel. */
    static int codeOf(String body) {
        Game stage = Play.on(2, ": start " + body + " ;");
        int last = stage.count(4) - 1;
        int what = last < 0 ? 0 : stage.output(last, 1);
        return what == 10 ? stage.output(last, 2) : what == 11 ? 11 : 0;
    }

    static void faults(String body, int code) {
        check(body, codeOf(body), code);
    }

    static void works(String body) {
        check(body, codeOf(body), 0);
    }

    static String real(float value) {
        return "2:" + Float.floatToIntBits(value);
    }

    /** Words that give any int at all: written numbers have nine digits at most. */
    static String number(int n) {
        return Math.abs((long) n) < 1000000000 ? Integer.toString(n) : (n >> 16) + " 16 shl " + (n & 0xffff) + " or";
    }

    static String bits(int n) {
        return number(n) + " unbits";
    }

    static String bits(float value) {
        return bits(Float.floatToRawIntBits(value));
    }

    /** Words that cost so much and leave the pile as it is. */
    static String burn(int fuel) {
        return (fuel % 2 == 1 ? "try always end " : "") + repeat("0 drop ", fuel / 2);
    }

    static void book(String text, int fault, int place) {
        Game stage = new Game(1);
        int answer = Play.read(stage, text);
        check("book of '" + text + "'", answer > 0 ? 1 : answer, fault == 0 ? 1 : NONE);
        check("fault of '" + text + "'", stage.fault(0), fault);
        check("place of '" + text + "'", stage.fault(1), place);
    }

    static void goodBook(String text) {
        book(text, 0, NONE);
    }

    /** A call that is refused: it answers so, and nothing has changed. */
    static void refused(Game stage, String call, IntSupplier answer, int want) {
        String before = Play.all(stage);
        stage.keepQuestions(true);
        int got = answer.getAsInt();
        stage.keepQuestions(false);
        check(call, got, want);
        check("nothing has changed behind " + call, Play.all(stage), before);
    }

    /** Whether element throws: exactly the exception that the document names. */
    static boolean throwsIndex(Game stage, int a, int part, int i) {
        try {
            stage.element(a, part, i);
            return false;
        } catch (RuntimeException thrown) {
            return thrown.getClass() == IndexOutOfBoundsException.class;
        }
    }
}
