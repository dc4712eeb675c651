import java.util.Random;

/** Any calls with any numbers: nothing but element's own exception ever comes out, and all ends. */
public final class RandomCallsTest {
    private static final int[] NUMBERS = {0, 1, 2, 3, 4, 5, 6, 7, 8, 9, 10, 11, 12, 13, 16, 17, 20, 31, 32, 33, 120, 140,
        141, 199, 200, 255, 256, 400, 4000, 4001, -1, -2, -3, Integer.MIN_VALUE, Integer.MAX_VALUE,
        Integer.MIN_VALUE + 1, Integer.MAX_VALUE - 1, Integer.MAX_VALUE - 11, 0x20202020};

    private final Random chance;

    private RandomCallsTest(int seed) {
        chance = Play.chance(seed);
    }

    private int number() {
        return chance.nextInt(4) == 0 ? chance.nextInt() : NUMBERS[chance.nextInt(NUMBERS.length)];
    }

    private int small() {
        return chance.nextInt(8) == 0 ? number() : chance.nextInt(8);
    }

    private String bytes() {
        StringBuilder text = new StringBuilder();
        int length = chance.nextInt(60);
        for (int i = 0; i < length; i++) {
            text.append((char) (chance.nextInt(3) == 0 ? 32 : chance.nextInt(256)));
        }
        return text.toString();
    }

    private static int element(Game stage, int a, int part, int i) {
        try {
            return stage.element(a, part, i);
        } catch (IndexOutOfBoundsException none) {
            if (none.getClass() != IndexOutOfBoundsException.class) {
                throw new IllegalStateException("the machine threw", none);
            }
            return -77;
        }
    }

    private static final int KINDS_OF_CALL = 14;

    private int call(Game stage, int which) {
        int[] n = {number(), small(), small(), number(), number()};
        switch (which) {
            case 0:
                return stage.feed(number(), n[0], n[1], n[3], n[4]);
            case 1:
                return stage.end(n[0]);
            case 2:
                return stage.book();
            case 3:
                return stage.fault(n[1]);
            case 4:
                return stage.advance(n[1]);
            case 5:
                return stage.give(n[1], stage.count(0) - 6 + small(), n[2]);
            case 6:
                return stage.give(n[1], n[0], n[3]);
            case 7:
                return stage.input(n[1], n[0], n[2] > 3);
            case 8:
                return stage.count(n[1] + n[2]);
            case 9:
                return stage.actor(n[1], n[2]);
            case 10:
                return stage.held(n[1], n[2], small());
            case 11:
                return element(stage, n[1], n[2], small());
            case 12:
                return stage.alike(n[1], n[2], small(), small()) ? 1 : 0;
            default:
                return stage.output(n[0], n[1]);
        }
    }

    private long play() {
        Game stage = new Game(number());
        stage.keepQuestions(true);
        long sum = 0;
        Play.read(stage, new Author(chance).book());
        while (stage.left() > 1) {
            if (chance.nextInt(60) == 0 && stage.left() > 210) {
                sum = sum * 31 + Play.read(stage, chance.nextBoolean() ? bytes() : new Author(chance).book());
            }
            sum = sum * 31 + call(stage, chance.nextInt(KINDS_OF_CALL));
        }
        return sum;
    }

    public static void main(String[] args) {
        for (int seed = 0; seed < (args.length > 0 ? Integer.parseInt(args[0]) : 150); seed++) {
            Play.check("the same calls, the same answers", new RandomCallsTest(seed).play(), new RandomCallsTest(seed).play());
        }
        Play.finish();
    }
}
