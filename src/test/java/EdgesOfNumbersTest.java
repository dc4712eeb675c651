/** Part III: the boundaries of the words of numbers. */
public final class EdgesOfNumbersTest {
    private static final float NAN = Float.NaN;
    private static final float INFINITE = Float.POSITIVE_INFINITY;

    private static void ints(String program, int want) {
        Edge.gives(program + " say", "1:" + want);
    }

    private static void reals(String program, float want) {
        Edge.gives(program + " say", Edge.real(want));
    }

    private static void two(float u, float v, String word, float want) {
        reals(Edge.bits(u) + " " + Edge.bits(v) + " " + word, want);
    }

    private static void one(float u, String word, float want) {
        reals(Edge.bits(u) + " " + word, want);
    }

    private static void division() {
        Edge.sentence("/ and % of INTS towards 0");
        int[][] pairs = {{7, 2}, {-7, 2}, {7, -2}, {-7, -2}, {6, 2}, {-6, 2}, {1, 2}, {-1, 2}, {0, 5}, {Edge.MAX, 2},
            {Edge.MIN, 2}, {Edge.MIN, Edge.MIN}, {Edge.MAX, Edge.MIN}, {Edge.MIN, Edge.MAX}, {Edge.MIN, 1}};
        for (int[] pair : pairs) {
            ints(Edge.number(pair[0]) + " " + Edge.number(pair[1]) + " /", pair[0] / pair[1]);
            ints(Edge.number(pair[0]) + " " + Edge.number(pair[1]) + " %", pair[0] % pair[1]);
        }
        Edge.sentence("ZERO by 0");
        int[] all = {5, 0, -5, Edge.MIN, Edge.MAX};
        for (int u : all) {
            for (String word : new String[] {"/", "%"}) {
                Edge.faults(Edge.number(u) + " 0 " + word, Edge.ZERO);
                Edge.works(Edge.number(u) + " 1 " + word);
                Edge.works(Edge.number(u) + " -1 " + word);
                Edge.works(Edge.number(u) + " 0.0 " + word);
                Edge.works(Edge.number(u) + " real 0 " + word);
            }
        }
        reals("5 0.0 /", INFINITE);
        reals("5.0 0 /", INFINITE);
        reals("-5 0.0 /", -INFINITE);
        reals("5 -0.0 /", -INFINITE);
        reals("0 0.0 /", NAN);
        reals("5.0 0 %", NAN);
        Edge.sentence("an INT beside a REAL is made the nearest REAL");
        reals("16777217 0.0 +", 16777216f);
        reals("0.0 16777219 +", 16777220f);
        reals(Edge.number(Edge.MAX) + " 1.0 *", 2147483648f);
        reals("7 2.0 /", 3.5f);
        ints("16777217 0 +", 16777217);
    }

    private static void rests() {
        Edge.sentence("of REALS % is what is left behind the quotient cut towards 0, exactly");
        two(5.5f, 2, "%", 1.5f);
        two(-5.5f, 2, "%", -1.5f);
        two(5.5f, -2, "%", 1.5f);
        two(4, 2, "%", 0);
        two(-4, 2, "%", -0f);
        two(2, 5, "%", 2);
        two(-0f, 5, "%", -0f);
        two(5, INFINITE, "%", 5);
        two(INFINITE, 5, "%", NAN);
        two(5, 0, "%", NAN);
        two(5, -0f, "%", NAN);
        two(NAN, 5, "%", NAN);
        two(5, NAN, "%", NAN);
        two(1e30f, 3, "%", 1e30f % 3);
        two(Float.MAX_VALUE, Float.MIN_VALUE, "%", 0);
        two(Float.MAX_VALUE, 100, "%", Float.MAX_VALUE % 100);
        two(Math.nextDown(100f), 100, "%", Math.nextDown(100f));
        two(Math.nextUp(100f), 100, "%", Math.nextUp(100f) - 100);
        two(0.3f, 0.1f, "%", 0.3f % 0.1f);
        two(Float.MIN_VALUE, 1, "%", Float.MIN_VALUE);
    }

    private static void lesserAndGreater() {
        Edge.sentence("min and max are NAN if one is, and -0 is below 0");
        two(NAN, 1, "min", NAN);
        two(1, NAN, "min", NAN);
        two(NAN, 1, "max", NAN);
        two(1, NAN, "max", NAN);
        two(NAN, -INFINITE, "min", NAN);
        two(0, -0f, "min", -0f);
        two(-0f, 0, "min", -0f);
        two(0, -0f, "max", 0);
        two(-0f, 0, "max", 0);
        two(-0f, -0f, "max", -0f);
        two(-0f, Float.MIN_VALUE, "max", Float.MIN_VALUE);
        two(-0f, -Float.MIN_VALUE, "min", -Float.MIN_VALUE);
        two(-INFINITE, INFINITE, "min", -INFINITE);
        two(-INFINITE, INFINITE, "max", INFINITE);
        two(-1, -2, "max", -1);
        two(-1, -2, "min", -2);
        reals("0 -0.0 min", -0f);
        reals("0 -0.0 max", 0);
        ints("2 3 min", 2);
        ints("3 2 max", 3);
    }

    private static void wholes() {
        Edge.sentence("floor, ceil, rint (a half to the even one) leave an INT");
        int[] all = {0, 5, -5, Edge.MAX, Edge.MIN};
        for (int i : all) {
            ints(Edge.number(i) + " floor", i);
            ints(Edge.number(i) + " ceil", i);
            ints(Edge.number(i) + " rint", i);
        }
        float[] numbers = {0.5f, 1.5f, 2.5f, 3.5f, -0.5f, -1.5f, -2.5f, -3.5f, Math.nextDown(0.5f), Math.nextUp(0.5f),
            Math.nextDown(1.5f), Math.nextUp(2.5f), 0, -0f, 1, -1, Float.MIN_VALUE, -Float.MIN_VALUE, 4194303.5f,
            4194304.5f, 8388607.5f, 8388606.5f, 8388608, 8388609, 16777216, 1e30f, INFINITE, -INFINITE, NAN,
            Math.nextDown(1f), Math.nextUp(1f), -8388607.5f, 0.9999f, -0.9999f};
        for (float u : numbers) {
            one(u, "floor", (float) Math.floor(u));
            one(u, "ceil", (float) Math.ceil(u));
            one(u, "rint", (float) Math.rint(u));
        }
    }

    private static void signs() {
        Edge.sentence("sgn is -1, 0, 1 (of a REAL a REAL, 0, -0 and NAN themselves)");
        ints("5 sgn", 1);
        ints("1 sgn", 1);
        ints("0 sgn", 0);
        ints("-1 sgn", -1);
        ints(Edge.number(Edge.MIN) + " sgn", -1);
        ints(Edge.number(Edge.MAX) + " sgn", 1);
        one(5, "sgn", 1);
        one(-5, "sgn", -1);
        one(Float.MIN_VALUE, "sgn", 1);
        one(-Float.MIN_VALUE, "sgn", -1);
        one(0, "sgn", 0);
        one(-0f, "sgn", -0f);
        one(NAN, "sgn", NAN);
        one(-INFINITE, "sgn", -1);
        Edge.sentence("root u: made a REAL, a REAL (NAN of what is below 0)");
        one(0, "root", 0);
        one(-0f, "root", -0f);
        one(Float.MIN_VALUE, "root", (float) Math.sqrt(Float.MIN_VALUE));
        one(-Float.MIN_VALUE, "root", NAN);
        one(-1, "root", NAN);
        one(-INFINITE, "root", NAN);
        one(INFINITE, "root", INFINITE);
        one(NAN, "root", NAN);
        reals("-1 root", NAN);
        reals("0 root", 0);
        reals("16 root", 4);
        reals("16777217 root", 4096);
        Edge.sentence("like: the first one with the sign of the second (of NAN: without one)");
        two(3, -1, "like", -3);
        two(-3, 1, "like", 3);
        two(3, 0, "like", 3);
        two(-3, 0, "like", 3);
        two(3, -0f, "like", -3);
        two(-3, NAN, "like", 3);
        two(3, NAN, "like", 3);
        two(NAN, -1, "like", NAN);
        two(0, -INFINITE, "like", -0f);
        two(INFINITE, -1, "like", -INFINITE);
        reals("5 -1 like", -5);
        reals("-5 0 like", 5);
        reals(Edge.number(Edge.MIN) + " 1 like", 2147483648f);
    }

    private static void conversions() {
        Edge.sentence("int u: towards 0, the nearest INT there is; NAN 0");
        float[] numbers = {0.9999f, -0.9999f, 1, -1, 1.5f, -1.5f, 0, -0f, 2147483520f, 2147483648f, Math.nextUp(2147483648f),
            -2147483520f, -2147483648f, Math.nextDown(-2147483648f), INFINITE, -INFINITE, 1e30f, -1e30f, 8388607.5f,
            16777215, Float.MIN_VALUE, NAN};
        for (float u : numbers) {
            ints(Edge.bits(u) + " int", (int) u);
        }
        ints(Edge.number(Edge.MIN) + " int", Edge.MIN);
        ints(Edge.number(Edge.MAX) + " int", Edge.MAX);
        Edge.sentence("bits u: made a REAL: its bits as an INT (NAN: 2143289344)");
        ints("0.0 bits", 0);
        ints("-0.0 bits", Edge.MIN);
        ints("0 bits", 0);
        ints("1 bits", 0x3f800000);
        ints("0.0 0.0 / bits", 2143289344);
        ints("1 0.0 / bits", 0x7f800000);
        ints("-1 0.0 / bits", 0xff800000);
        ints(Edge.number(Edge.MIN) + " bits", 0xcf000000);
        Edge.sentence("unbits i: the REAL of these bits");
        int[] all = {0, 1, -1, Edge.MIN, Edge.MAX, 0x3f800000, 0x7f800000, 0xff800000, 0x007fffff, 0x00800000};
        for (int i : all) {
            Edge.gives(Edge.bits(i) + " say", "2:" + Float.floatToIntBits(Float.intBitsToFloat(i)));
        }
    }

    private static void shifts() {
        Edge.sentence("shl shr i j (by the lowest five bits of j; shr keeps the sign)");
        int[] by = {0, 1, 30, 31, 32, 33, 63, 64, -1, -31, -32, -33, Edge.MIN, Edge.MAX};
        int[] all = {1, -1, 5, -8, Edge.MIN, Edge.MAX};
        for (int i : all) {
            for (int j : by) {
                ints(Edge.number(i) + " " + Edge.number(j) + " shl", i << (j & 31));
                ints(Edge.number(i) + " " + Edge.number(j) + " shr", i >> (j & 31));
            }
        }
    }

    private static void compares(String u, String v, int below, int notAbove, int equal) {
        Edge.gives(u + " " + v + " < say " + u + " " + v + " <= say " + u + " " + v + " = say",
                "1:" + below + " 1:" + notAbove + " 1:" + equal);
    }

    private static void comparisons() {
        Edge.sentence("< <= = u v: 1 or 0 (made alike as above; with NAN 0)");
        compares("2", "3", 1, 1, 0);
        compares("3", "3", 0, 1, 1);
        compares("4", "3", 0, 0, 0);
        compares(Edge.number(Edge.MIN), Edge.number(Edge.MAX), 1, 1, 0);
        compares(Edge.number(Edge.MAX), Edge.number(Edge.MIN), 0, 0, 0);
        compares("16777216", "16777217", 1, 1, 0);
        compares("4096.0 4096.0 *", "16777217", 0, 1, 1);
        compares("-0.0", "0.0", 0, 1, 1);
        compares("0.0", "-0.0", 0, 1, 1);
        compares("-0.0", "0", 0, 1, 1);
        compares("-1.5", "-1.0", 1, 1, 0);
        compares("-1.0", "-1.5", 0, 0, 0);
        compares("-1.0", "1.0", 1, 1, 0);
        compares("1.0", "1", 0, 1, 1);
        compares("0.0 0.0 /", "0.0 0.0 /", 0, 0, 0);
        compares("0.0 0.0 /", "1", 0, 0, 0);
        compares("1", "0.0 0.0 /", 0, 0, 0);
        compares("0.0 0.0 /", "-1.0 0.0 /", 0, 0, 0);
        compares("1.0 0.0 /", "1.0 0.0 /", 0, 1, 1);
        compares(Edge.bits(1), "0.0", 0, 0, 0);
        compares("0.0", Edge.bits(1), 1, 1, 0);
        compares(Edge.bits(Edge.MIN + 1), "-0.0", 1, 1, 0);
        Edge.sentence("same: INTS or REALS that are alike in all bits (NAN and NAN, too)");
        Edge.gives("5 5 same say 5 6 same say 5.0 5.0 same say 5 5.0 same say 0 0.0 same say", "1:1 1:0 1:1 1:0 1:0");
        Edge.gives("0.0 -0.0 same say -0.0 -0.0 same say 0.0 0.0 / 0.0 0.0 / same say", "1:0 1:1 1:1");
        Edge.gives("none none same say none 0 same say none 0.0 same say 0 none same say", "1:1 1:0 1:0 1:0");
        Edge.gives("0 new 0 nth same say 0 0 nth same say none 0 nth same say 0 new 0 nth same say", "1:1 1:0 1:0 1:0");
    }

    public static void main(String[] args) {
        division();
        rests();
        lesserAndGreater();
        wholes();
        signs();
        conversions();
        shifts();
        comparisons();
        Play.finish();
    }
}
