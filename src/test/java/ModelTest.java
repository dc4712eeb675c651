import java.util.Random;

/** Books by chance, played on the class and on the model: every answer must be the same. */
public final class ModelTest {
    private static int shown = 0;

    private static void compare(String what, String got, String want, String book) {
        Play.check(what + (got.equals(want) || shown > 2 ? "" : " of" + book), got, want);
        shown += got.equals(want) ? 0 : 1;
    }

    private static void play(int seed, int calls) {
        Random chance = Play.chance(seed);
        int players = 1 + chance.nextInt(4);
        Game stage = new Game(players);
        Model model = new Model(players);
        String book = new Author(chance).book();
        Play.check("book " + seed, Play.read(stage, book), model.read(book));
        Play.check("fault " + seed, stage.fault(0), model.fault(0));
        Play.check("place " + seed, stage.fault(1), model.fault(1));
        compare("start " + seed, Play.scene(stage), model.scene(), book);
        for (int i = 0; i < calls && shown == 0; i++) {
            int p = chance.nextInt(players + 1) - (chance.nextInt(30) == 0 ? 1 : 0);
            int frame = stage.count(0) + 3 - chance.nextInt(18);
            if (chance.nextInt(3) > 0) {
                int bits = chance.nextInt(4);
                Play.check("give " + seed, stage.give(p, frame, bits), model.give(p, frame, bits));
            } else {
                int n = 1 + chance.nextInt(5);
                Play.check("advance " + seed, stage.advance(n), model.advance(n));
            }
            Play.check("input " + seed, stage.input(p, frame, false), model.input(p, frame, false));
            Play.check("known " + seed, stage.input(p, frame, true), model.input(p, frame, true));
            compare("scene " + seed + " at " + i, Play.scene(stage), model.scene(), book);
            Play.check("runs " + seed, stage.count(5), model.runs());
            Play.check("backs " + seed, stage.count(6), model.backs());
        }
    }

    /** A frame whose input is worth giving: mostly the first that is not known, so that the stage can go on. */
    private static int frameToGive(Game stage, int p, Random chance) {
        int present = stage.count(0);
        if (chance.nextInt(5) == 0) {
            return present + chance.nextInt(27) - 13;
        }
        int frame = Math.max(0, present - 12);
        while (frame < present && stage.input(p, frame, true) == 1) {
            frame++;
        }
        return frame;
    }

    /** Long enough that many games come to the last frame, or use up all the frames that may be run. */
    private static void playLong(int seed) {
        Random chance = Play.chance(seed);
        int players = 1 + chance.nextInt(4);
        int inputs = 1 + chance.nextInt(3);
        Game stage = new Game(players);
        Model model = new Model(players);
        String book = new Author(chance).book();
        Play.check("long book " + seed, Play.read(stage, book), model.read(book));
        for (int i = 0; i < 230 && shown == 0; i++) {
            if (chance.nextInt(4) > 0) {
                int p = chance.nextInt(players);
                int frame = frameToGive(stage, p, chance);
                int bits = chance.nextInt(inputs);
                Play.check("long give " + seed, stage.give(p, frame, bits), model.give(p, frame, bits));
            } else {
                int n = 1 + chance.nextInt(16);
                Play.check("long advance " + seed, stage.advance(n), model.advance(n));
            }
            if (i % 10 == 9) {
                compare("long scene " + seed + " at " + i, Play.scene(stage), model.scene(), book);
                Play.check("long runs " + seed, stage.count(5), model.runs());
                Play.check("long backs " + seed, stage.count(6), model.backs());
            }
        }
    }

    public static void main(String[] args) {
        int games = args.length > 0 ? Integer.parseInt(args[0]) : 300;
        int first = args.length > 1 ? Integer.parseInt(args[1]) : 0;
        for (int seed = first; seed < first + games && shown == 0; seed++) {
            play(seed, 25);
            if (seed % 10 == 0) {
                playLong(seed);
            }
        }
        Play.finish();
    }
}
