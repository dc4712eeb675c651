import java.util.Random;

/** Single precision: every word of numbers against Java's own floats, on edges and by chance. */
public final class RealTest {
    private static final int[] EDGES = {0, 0x80000000, 1, 0x80000001, 0x007fffff, 0x00800000, 0x00800001, 0x3f800000,
        0xbf800000, 0x3f000000, 0xbf000000, 0x3effffff, 0x3f000001, 0x3fc00000, 0x40200000, 0xc0200000, 0x4b000000,
        0x4affffff, 0x4b000001, 0x4b7fffff, 0x4b800000, 0x4f000000, 0xcf000000, 0x4effffff, 0x4f800000, 0x7f7fffff,
        0xff7fffff, 0x7f800000, 0xff800000, 0x7fc00000, 0xffc00000, 0x7f800001, 0x42c80000, 0x34000000, 0x33800000,
        0x7e800000, 0x00000003, 0x5f000000, 0x1f000000};
    private static final String[] TWO = {"+", "-", "*", "/", "%", "min", "max", "<", "<=", "=", "like", "same"};
    private static final String[] ONE = {"neg", "abs", "floor", "ceil", "rint", "sgn", "root", "int", "bits"};

    private final Random chance = new Random(4);
    private final StringBuilder text = new StringBuilder();
    private final StringBuilder want = new StringBuilder();
    private int words;

    private static float two(String word, float u, float v) {
        switch (word) {
            case "+":
                return u + v;
            case "-":
                return u - v;
            case "*":
                return u * v;
            case "/":
                return u / v;
            case "%":
                return u % v;
            case "min":
                return Math.min(u, v);
            case "max":
                return Math.max(u, v);
            default:
                return Math.copySign(u, Float.isNaN(v) ? 1f : v);
        }
    }

    private static float one(String word, float u) {
        switch (word) {
            case "neg":
                return -u;
            case "abs":
                return Math.abs(u);
            case "floor":
                return (float) Math.floor(u);
            case "ceil":
                return (float) Math.ceil(u);
            case "rint":
                return (float) Math.rint(u);
            case "sgn":
                return Math.signum(u);
            default:
                return (float) Math.sqrt(u);
        }
    }

    private static boolean holds(String word, float u, float v) {
        switch (word) {
            case "<":
                return u < v;
            case "<=":
                return u <= v;
            case "=":
                return u == v;
            default:
                return Float.floatToIntBits(u) == Float.floatToIntBits(v);
        }
    }

    private static String written(int number) {
        return (number >> 16) + " 16 shl " + (number & 0xffff) + " or";
    }

    private void say(String program, int count, String sort) {
        if (words + count > 480) {
            flush();
        }
        text.append(' ').append(program).append(" say");
        want.append(want.length() == 0 ? "" : " ").append(sort);
        words += count + 1;
    }

    private void flush() {
        if (words > 0) {
            Play.says(text.toString(), want.toString());
        }
        text.setLength(0);
        want.setLength(0);
        words = 0;
    }

    private static String real(float value) {
        return "2:" + Float.floatToIntBits(value);
    }

    private void tryTwo(String word, int a, int b) {
        float u = Float.intBitsToFloat(a);
        float v = Float.intBitsToFloat(b);
        boolean asks = word.equals("<") || word.equals("<=") || word.equals("=") || word.equals("same");
        String due = asks ? "1:" + (holds(word, u, v) ? 1 : 0) : real(two(word, u, v));
        say(written(a) + " unbits " + written(b) + " unbits " + word, 13, due);
    }

    private void tryOne(String word, int a) {
        float u = Float.intBitsToFloat(a);
        String due = word.equals("int") ? "1:" + (int) u : word.equals("bits") ? "1:" + Float.floatToIntBits(u)
                : real(one(word, u));
        say(written(a) + " unbits " + word, 7, due);
    }

    /** An int beside a real is made the nearest real. */
    private void tryMixed(String word, int i, int b) {
        float v = Float.intBitsToFloat(b);
        say(written(i) + " " + written(b) + " unbits " + word, 12, real(two(word, (float) i, v)));
        say(written(b) + " unbits " + written(i) + " " + word, 12, real(two(word, v, (float) i)));
        say(written(i) + " real", 6, real((float) i));
        say(written(i) + " bits", 6, "1:" + Float.floatToIntBits((float) i));
        say(written(i) + " root", 6, real((float) Math.sqrt((float) i)));
        say(written(i) + " " + written(b) + " unbits <", 12, "1:" + ((float) i < v ? 1 : 0));
    }

    private int near(int a) {
        switch (chance.nextInt(4)) {
            case 0:
                return a + chance.nextInt(9) - 4;
            case 1:
                return a ^ 0x80000000;
            case 2:
                return a + (chance.nextInt(60) - 30 << 23);
            default:
                return chance.nextInt();
        }
    }

    private void tryWritten(String number) {
        say(number, 1, real(Float.parseFloat(number)));
    }

    private void run(int many) {
        for (int a : EDGES) {
            for (String word : ONE) {
                tryOne(word, a);
            }
            for (int b : EDGES) {
                for (String word : TWO) {
                    tryTwo(word, a, b);
                }
            }
        }
        for (int i = 0; i < many; i++) {
            int a = chance.nextInt(3) == 0 ? Float.floatToIntBits(chance.nextInt(2000) / 8f - 100) : chance.nextInt();
            tryTwo(TWO[i % TWO.length], a, near(a));
            tryOne(ONE[i % ONE.length], near(a));
            tryOne(ONE[i % ONE.length], 0x3f000000 + chance.nextInt(0x0d000000));
            tryMixed(TWO[i % 7], chance.nextInt() >> chance.nextInt(31), near(a));
            String digits = Integer.toString(chance.nextInt(10000));
            String behind = Integer.toString(10000 + chance.nextInt(10000)).substring(1, 2 + chance.nextInt(4));
            tryWritten((chance.nextInt(2) == 0 ? "-" : "") + digits + "." + behind);
        }
        String[] numbers = {"0.0", "-0.0", "0.0001", "9999.9999", "-0.0001", "0.1", "0.3333", "8191.9995", "1.0000"};
        for (String number : numbers) {
            tryWritten(number);
        }
        flush();
    }

    public static void main(String[] args) {
        new RealTest().run(args.length > 0 ? Integer.parseInt(args[0]) : 6000);
        Play.finish();
    }
}
