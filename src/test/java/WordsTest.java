/** Part III: each word, with what it gives and the faults that it can have. */
public final class WordsTest {
    /** What a body gives: said by the end of start. */
    private static void gives(String body, String want) {
        Play.says(body, want);
    }

    /** The code of the fault that comes out of a body. */
    private static void faults(String body, int code) {
        Play.says("try " + body + " 99 say catch code say end", "1:" + code);
    }

    private static String real(float value) {
        return "2:" + Float.floatToIntBits(value);
    }

    private static final int NOTHING = 1;
    private static final int PLACE = 2;
    private static final int SIZE = 3;
    private static final int KIND = 4;
    private static final int MIX = 5;
    private static final int ZERO = 6;
    private static final int EMPTY = 7;
    private static final int DEEP = 8;
    private static final int RAISED = 9;

    private static void pileWords() {
        gives("none say", "0:0");
        gives("1 dup say say", "1:1 1:1");
        gives("1 2 drop say", "1:1");
        gives("1 2 swap say say", "1:1 1:2");
        gives("1 2 over say say say", "1:1 1:2 1:1");
        gives("none none same say 1 1 same say 1 2 same say 1 1.0 same say none 0 same say", "1:1 1:1 1:0 1:0 1:0");
        gives("0.0 -0.0 same say 0.0 0.0 / dup same say 1.5 1.5 same say", "1:0 1:1 1:1");
        gives("2 ints dup same say 2 ints 2 ints same say 2 ints dup twin same say", "1:1 1:0 1:0");
        gives("0 new 0 nth same say 0 new 0 nth same say 0 0 nth same say", "1:1 1:0 1:0");
        gives("try 1 raise catch dup same say end", "1:1");
        faults("dup", EMPTY);
        faults("1 swap", EMPTY);
        faults("1 over", EMPTY);
        faults("1 same", EMPTY);
        faults("drop", EMPTY);
    }

    private static void intWords() {
        gives("7 3 + say 7 3 - say 7 3 * say 7 3 / say 7 3 % say 7 3 min say 7 3 max say",
                "1:10 1:4 1:21 1:2 1:1 1:3 1:7");
        gives("-7 3 / say -7 3 % say 7 -3 / say 7 -3 % say -7 -3 / say", "1:-2 1:-1 1:-2 1:1 1:2");
        gives("1 31 shl dup -1 / say dup -1 % say dup neg say dup abs say dup 1 - say -1 + say",
                "1:-2147483648 1:0 1:-2147483648 1:-2147483648 1:2147483647 1:2147483647");
        gives("65536 dup * say 123456789 987654321 * say", "1:0 1:" + 123456789 * 987654321);
        gives("-5 neg say -5 abs say -5 floor say 5 ceil say 5 rint say -5 sgn say 0 sgn say 9 sgn say",
                "1:5 1:5 1:-5 1:5 1:5 1:-1 1:0 1:1");
        gives("12 10 and say 12 10 or say 12 10 xor say 1 33 shl say -8 1 shr say -8 -1 shr say 1 -1 shl say",
                "1:8 1:14 1:6 1:2 1:-4 1:-1 1:-2147483648");
        gives("1 2 < say 2 2 < say 2 2 <= say 3 2 <= say 2 2 = say 2 3 = say", "1:1 1:0 1:1 1:0 1:1 1:0");
        faults("1 0 /", ZERO);
        faults("1 0 %", ZERO);
        faults("0 0 /", ZERO);
        String[] both = {"+", "-", "*", "/", "%", "min", "max", "like", "<", "<=", "="};
        for (String word : both) {
            faults("1 " + word, EMPTY);
            faults("none none " + word, NOTHING);
            faults("1 none " + word, NOTHING);
            faults("0 ints none " + word, KIND);
            faults("none 0 ints " + word, NOTHING);
            faults("1 0 ints " + word, KIND);
            faults("0 new 1 " + word, KIND);
        }
        String[] one = {"neg", "abs", "floor", "ceil", "rint", "sgn", "root", "int", "real", "bits"};
        for (String word : one) {
            faults(word, EMPTY);
            faults("none " + word, NOTHING);
            faults("0 new " + word, KIND);
        }
        String[] bits = {"and", "or", "xor", "shl", "shr"};
        for (String word : bits) {
            faults("1 " + word, EMPTY);
            faults("1 1.0 " + word, KIND);
            faults("1.0 none " + word, KIND);
            faults("none 1.0 " + word, NOTHING);
        }
    }

    private static void realWords() {
        gives("7 2.0 / say 7.0 2 / say 1 0.0 / say -1 0.0 / say 0.0 0 / say", real(3.5f) + " " + real(3.5f) + " "
                + real(Float.POSITIVE_INFINITY) + " " + real(Float.NEGATIVE_INFINITY) + " " + real(Float.NaN));
        gives("5.5 0 % say 5.5 2 % say -5.5 2 % say -4.0 2 % say", real(Float.NaN) + " " + real(1.5f) + " "
                + real(-1.5f) + " " + real(-0f));
        gives("-0.0 0 min say 0 -0.0 min say -0.0 0 max say 0.0 0.0 / 1 min say 1 0.0 0.0 / max say", real(-0f) + " "
                + real(-0f) + " " + real(0f) + " " + real(Float.NaN) + " " + real(Float.NaN));
        gives("2.5 rint say 3.5 rint say -0.5 rint say -0.5 ceil say -0.5 floor say 1.2 ceil say 1.8 floor say",
                real(2) + " " + real(4) + " " + real(-0f) + " " + real(-0f) + " " + real(-1) + " " + real(2) + " "
                        + real(1));
        gives("-2.5 sgn say -0.0 sgn say 0.0 sgn say 0.0 0.0 / sgn say 7.5 sgn say", real(-1) + " " + real(-0f) + " "
                + real(0) + " " + real(Float.NaN) + " " + real(1));
        gives("4 root say 2 root say -1 root say -0.0 root say", real(2) + " " + real((float) Math.sqrt(2)) + " "
                + real(Float.NaN) + " " + real(-0f));
        gives("3 -1 like say -3 0 like say -3 0.0 0.0 / like say 0.0 0.0 / -1 like say 3.5 -0.0 like say", real(-3) + " "
                + real(3) + " " + real(3) + " " + real(Float.NaN) + " " + real(-3.5f));
        gives("3.9 int say -3.9 int say 9999.0 9999.0 * 9999.0 * int say 0.0 0.0 / int say 5 int say -1.0 0.0 / int say",
                "1:3 1:-3 1:2147483647 1:0 1:5 1:-2147483648");
        gives("16777217 real say 1.5 real say 1.5 bits say 1 bits say 0.0 0.0 / bits say", real(16777216f) + " "
                + real(1.5f) + " 1:1069547520 1:1065353216 1:2143289344");
        gives("16320 16 shl unbits say -1 unbits say 32640 16 shl 1 or unbits bits say", real(1.5f) + " " + real(Float.NaN)
                + " 1:2143289344");
        gives("0.0 -0.0 = say 0.0 0.0 / dup = say 1 0.0 0.0 / < say 1 1.0 = say 16777217 16777216 real = say",
                "1:1 1:0 1:0 1:1 1:1");
        gives("-0.0 neg say 0.0 neg say -1.5 abs say 0.0 0.0 / neg say", real(0) + " " + real(-0f) + " " + real(1.5f)
                + " " + real(Float.NaN));
        faults("1.5 unbits", KIND);
        faults("none unbits", NOTHING);
    }

    private static void rowWords() {
        gives("0 ints say 12 reals say 3 flags say 3 smalls say 3 signs say 2 6 crew say", "3:0 4:12 5:3 6:3 7:3 8:2");
        gives("3 ints 1 at say 3 reals 1 at say 3 flags 1 at say 3 smalls 1 at say 3 signs 1 at say 3 0 crew 1 at say",
                "1:0 2:0 1:0 1:0 1:0 0:0");
        String[] makers = {"ints", "reals", "flags", "smalls", "signs"};
        for (String maker : makers) {
            faults("-1 " + maker, SIZE);
            faults("13 " + maker, SIZE);
            faults("none " + maker, NOTHING);
            faults("1.0 " + maker, KIND);
            faults(maker, EMPTY);
        }
        faults("13 7 crew", SIZE);
        faults("12 7 crew", KIND);
        faults("1 -1 crew", KIND);
        faults("none none crew", NOTHING);
        faults("1.0 none crew", KIND);
        faults("13 none crew", NOTHING);
        faults("1 crew", EMPTY);
        gives("5 ints len say 0 0 crew len say", "1:5 1:0");
        faults("none len", NOTHING);
        faults("5 len", KIND);
        faults("0 new len", KIND);
        faults("try 1 raise catch end len", KIND);
        faults("3 ints -1 at", PLACE);
        faults("3 ints 3 at", PLACE);
        faults("0 ints 0 at", PLACE);
        faults("none none at", NOTHING);
        faults("5 none at", KIND);
        faults("3 ints none at", NOTHING);
        faults("3 ints 1.0 at", KIND);
        gives("2 ints 5 over 1 put 1 at say", "1:5");
        gives("2 reals 5 over 1 put 1 at say", real(5));
        gives("2 flags -5 over 1 put 1 at say", "1:1");
        gives("2 smalls 40000 over 1 put 1 at say", "1:-25536");
        gives("2 signs -1 over 1 put 1 at say", "1:65535");
        gives("2 2 crew 3 new over 1 put dup 1 at say none over 1 put 1 at say", "9:0 0:0");
        // put looks at r, i, z, then for the place, then for the mix.
        faults("none none none put", NOTHING);
        faults("none 5 none put", KIND);
        faults("none 2 ints none put", NOTHING);
        faults("none 2 ints 1.5 put", KIND);
        faults("none 2 ints 9 put", NOTHING);
        faults("1.5 2 ints 9 put", KIND);
        faults("1 2 ints 2 put", PLACE);
        faults("1 2 ints -1 put", PLACE);
        faults("0 new 2 reals 0 put", KIND);
        faults("5 2 2 crew 9 put", KIND);
        faults("1 new 2 2 crew 2 put", PLACE);
        faults("1 new 2 2 crew 1 put", MIX);
        faults("2 new 2 3 crew 1 put", MIX);
        faults("3 new 2 4 crew 1 put", MIX);
        gives("5 new 2 2 crew 1 put 5 new 2 3 crew 0 put 5 new 1 0 crew 0 put 6 say", "1:6");
        gives("none 2 2 crew 0 put 6 say", "1:6");
        faults("none 2 2 crew 2 put", PLACE);
        gives("3 ints 7 over 0 put dup twin dup 8 swap 0 put 0 at say 0 at say", "1:8 1:7");
        gives("3 2 crew dup 2 new swap 1 put twin dup say 1 at say", "8:3 9:0");
        faults("none twin", NOTHING);
        faults("1 twin", KIND);
    }

    private static final String TWO_ROWS = "4 ints 1 over 0 put 2 over 1 put 3 over 2 put 4 over 3 put dup ";

    private static void all(String body, int places, String want) {
        StringBuilder text = new StringBuilder(body);
        for (int i = 0; i < places; i++) {
            text.append(" dup ").append(i).append(" at say");
        }
        gives(text.toString(), want);
    }

    private static void copyWord() {
        all(TWO_ROWS + "0 over 1 3 copy", 4, "1:1 1:1 1:2 1:3");
        all(TWO_ROWS + "1 over 0 3 copy", 4, "1:2 1:3 1:4 1:4");
        all(TWO_ROWS + "0 over 0 0 copy", 4, "1:1 1:2 1:3 1:4");
        all(TWO_ROWS + "4 over 4 0 copy", 4, "1:1 1:2 1:3 1:4");
        all("0 new 3 reals over mind! 1.5 over mind 2 put 2 reals over pal! dup mind 1 0 nth pal 0 2 copy pal", 2,
                "2:0 " + real(1.5f));
        // Looked at as i, j, n; then nothing, mix, place.
        faults("none none none none none copy", NOTHING);
        faults("none 1.0 none none none copy", KIND);
        faults("none 0 none 1.0 none copy", KIND);
        faults("none 0 none 0 none copy", NOTHING);
        faults("none 0 none 0 1.0 copy", KIND);
        faults("none 0 5 0 1 copy", NOTHING);
        faults("5 0 none 0 1 copy", NOTHING);
        faults("5 0 5 0 1 copy", MIX);
        faults("2 ints 0 5 0 1 copy", MIX);
        faults("5 0 2 ints 0 1 copy", MIX);
        faults("2 ints 9 2 reals 0 1 copy", MIX);
        faults("2 ints -1 2 ints 0 1 copy", PLACE);
        faults("2 ints 0 2 ints -1 1 copy", PLACE);
        faults("2 ints 0 2 ints 0 -1 copy", PLACE);
        faults("2 ints 1 2 ints 0 2 copy", PLACE);
        faults("2 ints 0 2 ints 1 2 copy", PLACE);
        faults("2 ints 3 2 ints 0 0 copy", PLACE);
        faults("2 ints 1 31 shl 1 - 2 ints 0 1 copy", PLACE);
        faults("2 ints 1 2 ints 0 1 31 shl 1 - copy", PLACE);
        faults("0 ints 1 31 shl 0 ints 1 31 shl 1 31 shl copy", PLACE);
        faults("1 0 1 0 copy", EMPTY);
        // Of crews those ahead of the first that the other's kind does not bear are copied.
        String crews = "0 new 3 0 crew over mind! 3 new over mind 0 put 1 new over mind 1 put 3 new over mind 2 put "
                + "3 2 crew over pal! ";
        all(crews + "dup try dup mind 0 0 nth pal 0 3 copy catch code say end pal swap drop", 3, "1:5 9:1 0:0 0:0");
        all(crews + "dup mind 2 0 nth pal 0 1 copy pal", 3, "9:3 0:0 0:0");
        all(crews + "none over mind 1 put dup mind 0 0 nth pal 0 3 copy pal", 3, "9:1 0:0 9:3");
    }

    private static void actorWords() {
        gives("me say it say", "0:0 0:0");
        gives("0 new say 6 new say 0 new kind say 1 nth kind say", "9:0 9:1 1:0 1:6");
        faults("7 new", KIND);
        faults("-1 new", KIND);
        faults("none new", NOTHING);
        faults("1.0 new", KIND);
        faults("new", EMPTY);
        gives("16 while dup do 0 new drop 1 - end drop 0 new say 15 nth say try 9 new catch code say end",
                "0:0 9:15 1:4");
        faults("none kind", NOTHING);
        faults("1 kind", KIND);
        int[][] below = {{0}, {0, 1}, {0, 2}, {0, 2, 3}, {0, 2, 4}, {0, 2, 3, 5}, {0, 2, 4, 6}};
        for (int kind = 0; kind < 7; kind++) {
            for (int asked = 0; asked < 7; asked++) {
                int is = 0;
                for (int k : below[kind]) {
                    is |= k == asked ? 1 : 0;
                }
                gives(kind + " new " + asked + " is say", "1:" + is);
                gives("try " + kind + " new " + asked + " as say catch code say end", is == 1 ? "9:0" : "1:4");
            }
        }
        gives("none 0 is say 5 0 is say 0 ints 0 is say", "1:0 1:0 1:0");
        gives("none 3 as say", "0:0");
        faults("none 7 is", KIND);
        faults("none -1 is", KIND);
        faults("0 new none is", NOTHING);
        faults("0 new 0.0 is", KIND);
        faults("none 7 as", KIND);
        faults("none none as", NOTHING);
        faults("5 0 as", KIND);
        gives("0 new dup on say dup gone on say", "1:1 1:1");
        faults("none on", NOTHING);
        faults("5 on", KIND);
        faults("none gone", NOTHING);
        faults("5.0 gone", KIND);
        faults("0 nth", PLACE);
        faults("0 new drop 1 nth", PLACE);
        faults("0 new drop -1 nth", PLACE);
        faults("none nth", NOTHING);
        faults("1.0 nth", KIND);
    }

    private static void partWords() {
        String[] motions = {"x", "y", "vx", "vy"};
        for (String word : motions) {
            gives("2 new " + word + " say 2 new dup 5 swap " + word + "! " + word + " say", "2:0 " + real(5));
            faults("none " + word, NOTHING);
            faults("5 " + word, KIND);
            faults("0 new " + word, KIND);
            faults("1 new " + word, KIND);
            faults("none none " + word + "!", NOTHING);
            faults("none 5 " + word + "!", KIND);
            faults("none 1 new " + word + "!", KIND);
            faults("none 2 new " + word + "!", NOTHING);
            faults("2 new 2 new " + word + "!", KIND);
            faults("2 new " + word + "!", EMPTY);
        }
        String[] values = {"mind", "pal"};
        for (String word : values) {
            gives("0 new " + word + " say 0 new dup 5 swap " + word + "! " + word + " say", "0:0 1:5");
            gives("0 new dup 5 swap " + word + "! dup none swap " + word + "! " + word + " say", "0:0");
            faults("none " + word, NOTHING);
            faults("5 " + word, KIND);
            faults("5 none " + word + "!", NOTHING);
            faults("5 5 " + word + "!", KIND);
        }
        String[] rows = {"marks", "name", "wear", "way"};
        String[] sorts = {"flags", "signs", "smalls", "reals"};
        int[] numbers = {5, 7, 6, 4};
        for (int i = 0; i < rows.length; i++) {
            for (int j = 0; j < sorts.length; j++) {
                gives("0 new try 2 " + sorts[j] + " over " + rows[i] + "! " + rows[i] + " say catch code say end",
                        i == j ? numbers[i] + ":2" : "1:4");
            }
            gives("0 new dup " + rows[i] + " say none over " + rows[i] + "! " + rows[i] + " say", "0:0 0:0");
            faults("2 ints 0 new " + rows[i] + "!", KIND);
            faults("5 0 new " + rows[i] + "!", KIND);
            faults("0 new 0 new " + rows[i] + "!", KIND);
            faults("5 none " + rows[i] + "!", NOTHING);
            faults("5 5 " + rows[i] + "!", KIND);
            faults("none " + rows[i], NOTHING);
        }
    }

    private static void placeWords() {
        String[] rows = {"marks", "name", "wear", "way"};
        String[] sorts = {"flags", "signs", "smalls", "reals"};
        String[] words = {"mark", "letter", "worn", "step"};
        String[] kept = {"1:1", "1:1", "1:1", real(65537)};
        for (int i = 0; i < rows.length; i++) {
            String made = "0 new 2 " + sorts[i] + " over " + rows[i] + "! ";
            gives(made + "65537 over 1 " + words[i] + "! 1 " + words[i] + " say", kept[i]);
            gives(made + "0 " + words[i] + " say", i == 3 ? "2:0" : "1:0");
            faults(made + "2 " + words[i], PLACE);
            faults(made + "-1 " + words[i], PLACE);
            faults("0 new 0 " + words[i], NOTHING);
            faults("none none " + words[i], NOTHING);
            faults("5 none " + words[i], KIND);
            faults("0 new none " + words[i], NOTHING);
            faults("0 new 0.0 " + words[i], KIND);
            faults("0 " + words[i], EMPTY);
            String sets = words[i] + "!";
            faults(made + "5 over 2 " + sets, PLACE);
            faults(made + "5 over -1 " + sets, PLACE);
            faults("5 0 new 0 " + sets, NOTHING);
            faults("none none none " + sets, NOTHING);
            faults("none 5 none " + sets, KIND);
            faults("none 0 new none " + sets, NOTHING);
            faults("none 0 new 1.0 " + sets, KIND);
            faults("0 ints 0 new 0 " + sets, KIND);
            faults(made + "0 ints over 5 " + sets, KIND);
            faults(made + "none over 5 " + sets, NOTHING);
            if (i < 3) {
                faults(made + "1.5 over 0 " + sets, KIND);
            }
        }
        gives("0 new 2 reals over way! 1.5 over 0 step! 0 step say", real(1.5f));
        gives("0 new 2 smalls over wear! -32769 over 0 worn! 0 worn say", "1:32767");
        gives("0 new 2 signs over name! -2 over 0 letter! 0 letter say", "1:65534");
    }

    private static void worldWords() {
        gives("frame say 0 input say 1 input say", "1:0 1:0 1:0");
        faults("2 input", PLACE);
        faults("-1 input", PLACE);
        faults("none input", NOTHING);
        faults("1.0 input", KIND);
        faults("say", EMPTY);
        int seed = 1;
        StringBuilder want = new StringBuilder();
        int[] sides = {6, 1, 1000, 2147483647, 65536};
        StringBuilder body = new StringBuilder();
        for (int n : sides) {
            seed = seed * 1103515245 + 12345;
            want.append(want.length() == 0 ? "" : " ").append("1:").append((seed >>> 16) % n);
            body.append(n == 2147483647 ? "1 31 shl 1 -" : Integer.toString(n)).append(" dice say ");
        }
        gives(body.toString(), want.toString());
        faults("0 dice", SIZE);
        faults("-1 dice", SIZE);
        faults("none dice", NOTHING);
        faults("1.0 dice", KIND);
        Play.check("a refused dice leaves the seed", Play.on(1, ": start try 0 dice catch end ;").count(8), 1);
        faults("5 raise", RAISED);
        faults("none raise", NOTHING);
        faults("1.0 raise", KIND);
        faults("0 new raise", KIND);
        faults("raise", EMPTY);
        gives("try -7 raise catch dup code say why say end", "1:9 1:-7");
        gives("try 1 0 / catch dup code say why say end", "1:6 1:0");
        gives("try try -7 raise catch raise end catch dup code say why say end", "1:9 1:-7");
        faults("none code", NOTHING);
        faults("9 code", KIND);
        faults("none why", NOTHING);
        faults("9 why", KIND);
        faults("code", EMPTY);
    }

    private static String ones(int n) {
        StringBuilder text = new StringBuilder();
        for (int i = 0; i < n; i++) {
            text.append("1 ");
        }
        return text.toString();
    }

    /** With 32 values there is room for no more than a word takes; which faults come first is told. */
    private static void fullPiles() {
        String nones = ones(32).replace("1", "none");
        for (String word : Model.WORDS) {
            if (word.matches("if|else|end|while|do|try|catch|always|leave|raise")) {
                continue;
            }
            boolean deep = Model.gives(word) > Model.takes(word);
            String said = Play.says(nones + "try " + word + " catch swap drop swap drop code 8 = say end");
            Play.check(word + " on a full pile", said.equals("1:1") ? 1 : 0, deep ? 1 : 0);
            String fewer = Play.says(nones + "drop try " + word + " catch swap drop code 8 = say end");
            boolean deeper = Model.gives(word) > Model.takes(word) + 1;
            Play.check(word + " on one of 31", fewer.equals("1:1") ? 1 : 0, deeper ? 1 : 0);
        }
    }

    private static void deepPiles() {
        gives(ones(32) + "3 say", "10:8");
        faults(ones(32) + "1", DEEP);
        faults(ones(32) + "none", DEEP);
        faults(ones(32) + "dup", DEEP);
        faults(ones(32) + "over", DEEP);
        faults(ones(32) + "frame", DEEP);
        gives(ones(31) + "2 swap + say", "1:3");
        gives(ones(31) + "dup say", "1:1");
        gives(ones(32) + "swap neg drop say", "1:1");
        gives(ones(32) + "1.5", "10:8");
        // A caught fault may lie above the 32; from there on only what leaves no more is done.
        gives(ones(32) + "try 1 catch code say end", "1:8");
        gives(ones(32) + "try 1 catch swap drop say end say", "10:8 1:1");
        gives(ones(32) + "try 1 catch try dup catch code say end end", "1:8");
        gives(ones(32) + "try 1 catch try none catch code say end code say end", "1:8 1:8");
    }

    public static void main(String[] args) {
        pileWords();
        intWords();
        realWords();
        rowWords();
        copyWord();
        actorWords();
        partWords();
        placeWords();
        worldWords();
        fullPiles();
        deepPiles();
        Play.finish();
    }
}
