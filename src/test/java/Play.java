import java.nio.charset.StandardCharsets;
import java.util.Random;

/** What the tests share: books as text, checks that are counted, a stage's whole face as one text. */
final class Play {
    private static int wrong = 0;
    private static int checks = 0;

    private Play() {
    }

    static void check(String what, long got, long want) {
        checks++;
        if (got != want) {
            wrong++;
            System.out.println(what + " answered " + got + ", due is " + want);
        }
    }

    static void check(String what, String got, String want) {
        checks++;
        if (!got.equals(want)) {
            wrong++;
            System.out.println(what + " answered\n  " + got + "\ndue is\n  " + want);
        }
    }

    static void finish() {
        System.out.println(checks + " checks, " + wrong + " wrong");
        if (wrong != 0 || checks == 0) {
            System.exit(1);
        }
    }

    /** Random begins alike for seeds that lie near one another: these are put far apart first. */
    static Random chance(int seed) {
        return new Random((seed + 1) * 0x9e3779b97f4a7c15L);
    }

    static byte[] bytes(String text) {
        return text.getBytes(StandardCharsets.ISO_8859_1);
    }

    private static int number(byte[] text, int at) {
        int number = 0;
        for (int i = at; i < at + 4; i++) {
            number = number << 8 | (i < text.length ? text[i] & 255 : 0);
        }
        return number;
    }

    /** Puts a text on an empty tape. */
    static void tape(Game stage, String text) {
        byte[] text2 = bytes(text);
        for (int i = 0; i < text2.length; i += 20) {
            stage.feed(number(text2, i), number(text2, i + 4), number(text2, i + 8), number(text2, i + 12),
                    number(text2, i + 16));
        }
        stage.end(text2.length);
    }

    static int read(Game stage, String text) {
        tape(stage, text);
        return stage.book();
    }

    static Game on(int players, String text) {
        Game stage = new Game(players);
        int definitions = read(stage, text);
        if (definitions < 1) {
            throw new IllegalStateException("fault " + stage.fault(0) + " at " + stage.fault(1) + " of " + text);
        }
        return stage;
    }

    /** All of OUTPUT from entry i on, as "frame:what:number ...". */
    static String said(Game stage, int from) {
        StringBuilder text = new StringBuilder();
        int last = stage.count(4);
        for (int i = from; i < last; i++) {
            text.append(i == from ? "" : " ").append(stage.output(i, 0)).append(':');
            text.append(stage.output(i, 1)).append(':').append(stage.output(i, 2));
        }
        return text.toString();
    }

    static String said(Game stage) {
        return said(stage, 0);
    }

    /** What a body of start says, as "what:number ...". */
    static String says(String body) {
        Game stage = on(2, ": start " + body + " ;");
        StringBuilder text = new StringBuilder();
        int last = stage.count(4);
        for (int i = 0; i < last; i++) {
            text.append(i == 0 ? "" : " ").append(stage.output(i, 1)).append(':').append(stage.output(i, 2));
        }
        return text.toString();
    }

    static void says(String body, String want) {
        check(body, says(body), want);
    }

    private static String element(Game stage, int a, int part, int i) {
        try {
            return Integer.toString(stage.element(a, part, i));
        } catch (IndexOutOfBoundsException none) {
            return "none";
        }
    }

    private static String elements(Game stage, int a, int part) {
        StringBuilder text = new StringBuilder();
        String at = element(stage, a, part, 0);
        for (int i = 1; i < 14 && !at.equals("none"); i++) {
            text.append(i == 1 ? " = " : ",").append(at);
            at = element(stage, a, part, i);
        }
        return text.toString();
    }

    /** What the actors are and have: all that goes back with the stage, but for counts of runs. */
    static String actors(Game stage) {
        StringBuilder text = new StringBuilder();
        int actors = stage.count(3);
        int[] sorts = new int[actors * 6];
        for (int a = 0; a < actors; a++) {
            text.append("\nactor ").append(a);
            for (int what = 0; what < 7; what++) {
                text.append(' ').append(stage.actor(a, what));
            }
            for (int part = 0; part < 6; part++) {
                sorts[a * 6 + part] = stage.held(a, part, 0);
                text.append(" | ").append(sorts[a * 6 + part]);
                text.append(' ').append(stage.held(a, part, 1)).append(' ').append(stage.held(a, part, 2));
                text.append(elements(stage, a, part));
            }
        }
        return text.append(alikes(stage, sorts)).toString();
    }

    private static String alikes(Game stage, int[] sorts) {
        StringBuilder text = new StringBuilder();
        for (int i = 0; i < sorts.length; i++) {
            for (int j = i + 1; j < sorts.length && sorts[i] > 2; j++) {
                if (sorts[i] == sorts[j] && stage.alike(i / 6, i % 6, j / 6, j % 6)) {
                    text.append("\nalike ").append(i).append(' ').append(j);
                }
            }
        }
        return text.toString();
    }

    /** The state of the stage at its frame, without how often it was run. */
    static String scene(Game stage) {
        StringBuilder text = new StringBuilder();
        for (int what = 0; what < 10; what++) {
            boolean runs = what == 5 || what == 6;
            text.append(runs ? "" : " " + what + "=" + stage.count(what));
        }
        return text.append(actors(stage)).append('\n').append(said(stage)).toString();
    }

    /** All that the face tells: a refused call must leave it as it is. */
    static String all(Game stage) {
        StringBuilder text = new StringBuilder(scene(stage));
        text.append("\nruns ").append(stage.count(5)).append(' ').append(stage.count(6));
        text.append("\nfault ").append(stage.fault(0)).append(' ').append(stage.fault(1));
        for (int p = 0; p < 4; p++) {
            for (int frame = 0; frame <= 140; frame++) {
                text.append(' ').append(stage.input(p, frame, true)).append('/').append(stage.input(p, frame, false));
            }
        }
        return text.toString();
    }
}
