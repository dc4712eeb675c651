import java.util.Random;

/** Part II: texts by chance, right and wrong ones, read by the class and by the model. */
public final class ReaderTest {
    private static final String[] WORDS = {":", ";", ":", ";", "a", "b", "a1", "start", "if", "else", "end", "while",
        "do", "try", "catch", "always", "1", "-2.5", "12345.0", "say", "dup", "x!", "mark!", "abcdefghij", "abcdefghijk",
        "A", "1234567890", "-", "-0.0", "1.", "\u00e4", "end", "end", ";", "1", "none"};

    private final Random chance;

    private ReaderTest(int seed) {
        chance = Play.chance(seed);
    }

    private String pick() {
        return WORDS[chance.nextInt(WORDS.length)];
    }

    private void body(StringBuilder text, int depth) {
        int words = chance.nextInt(4);
        for (int i = 0; i < words; i++) {
            int what = depth < 13 ? chance.nextInt(8) : 7;
            if (what < 2) {
                text.append(" 0 if");
                body(text, depth + 1);
                if (chance.nextBoolean()) {
                    text.append(" else");
                    body(text, depth + 1);
                }
                text.append(" end");
            } else if (what == 2) {
                text.append(" while");
                body(text, depth + 1);
                text.append(" do");
                body(text, depth + 1);
                text.append("\nend");
            } else if (what == 3) {
                text.append(" try");
                body(text, depth + 1);
                boolean caught = chance.nextBoolean();
                if (caught) {
                    text.append(" catch");
                    body(text, depth + 1);
                }
                if (!caught || chance.nextBoolean()) {
                    text.append(" always");
                    body(text, depth + 1);
                }
                text.append(" end");
            } else if (what == 4) {
                text.append(chance.nextInt(30) == 0 ? " zz" : " d0");
            } else {
                text.append(" 7");
            }
        }
    }

    private String text() {
        StringBuilder text = new StringBuilder();
        int definitions = 1 + chance.nextInt(chance.nextInt(20) == 0 ? 45 : 4);
        for (int i = 0; i < definitions; i++) {
            text.append(i == 0 && chance.nextBoolean() ? "" : " ").append(": d").append(i);
            body(text, 0);
            text.append(" ;");
        }
        int spoilt = chance.nextInt(3);
        for (int i = 0; i < spoilt; i++) {
            int at = text.indexOf(" ", chance.nextInt(text.length()));
            int to = at < 0 ? -1 : text.indexOf(" ", at + 1);
            if (to > 0) {
                int how = chance.nextInt(3);
                text.replace(at, to, how == 0 ? " " + pick() : how == 1 ? "" : text.substring(at, to) + " " + pick());
            }
        }
        if (chance.nextInt(6) == 0) {
            text.setLength(chance.nextInt(text.length() + 1));
        }
        return text.length() > 3980 ? text.substring(0, 3980) : text.toString();
    }

    private String words() {
        StringBuilder text = new StringBuilder();
        int words = chance.nextInt(12);
        for (int i = 0; i < words; i++) {
            text.append(chance.nextInt(9) == 0 ? "\n" : " ").append(pick());
        }
        return text.toString();
    }

    public static void main(String[] args) {
        int[] faults = new int[4];
        for (int seed = 0; seed < (args.length > 0 ? Integer.parseInt(args[0]) : 4000); seed++) {
            ReaderTest reader = new ReaderTest(seed);
            String text = seed % 5 == 0 ? reader.words() : reader.text();
            Game stage = new Game(1);
            Model model = new Model(1);
            Play.check("book of '" + text + "'", Play.read(stage, text), model.read(text));
            Play.check("fault of '" + text + "'", stage.fault(0), model.fault(0));
            Play.check("place of '" + text + "'", stage.fault(1), model.fault(1));
            Play.check("scene of '" + text + "'", Play.scene(stage), model.scene());
            faults[stage.fault(0) & 3]++;
        }
        for (int i = 0; i < 4; i++) {
            Play.check("some of fault " + i, faults[i] > 10 ? 1 : 0, 1);
        }
        Play.finish();
    }
}
