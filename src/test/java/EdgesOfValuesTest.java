/** Part I: the boundaries of the values and the kinds. */
public final class EdgesOfValuesTest {
    private static final String[] SORTS = {"ints", "reals", "flags", "smalls", "signs"};
    private static final int[] ABOVE = {-1, 0, 0, 2, 2, 3, 4};

    private static boolean isBelow(int kind, int other) {
        int at = kind;
        while (at >= 0 && at != other) {
            at = ABOVE[at];
        }
        return at == other;
    }

    private static void sum(int u, String word, int v, int want) {
        Edge.gives(Edge.number(u) + " " + Edge.number(v) + " " + word + " say", "1:" + want);
    }

    private static void intsWrap() {
        Edge.sentence("INTS (32 bits, they wrap)");
        sum(Edge.MAX - 1, "+", 1, Edge.MAX);
        sum(Edge.MAX, "+", 1, Edge.MIN);
        sum(Edge.MIN + 1, "-", 1, Edge.MIN);
        sum(Edge.MIN, "-", 1, Edge.MAX);
        sum(Edge.MAX, "*", 2, -2);
        sum(65536, "*", 32767, 2147418112);
        sum(65536, "*", 32768, Edge.MIN);
        sum(65536, "*", 65536, 0);
        sum(Edge.MIN, "*", -1, Edge.MIN);
        sum(Edge.MIN, "/", -1, Edge.MIN);
        sum(Edge.MIN, "%", -1, 0);
        sum(Edge.MAX, "/", -1, -Edge.MAX);
        sum(Edge.MIN, "min", Edge.MAX, Edge.MIN);
        sum(Edge.MIN, "max", Edge.MAX, Edge.MAX);
        sum(Edge.MIN, "<", Edge.MAX, 1);
        sum(Edge.MAX, "<", Edge.MIN, 0);
        for (String word : new String[] {"neg", "abs"}) {
            Edge.gives(Edge.number(Edge.MIN) + " " + word + " say", "1:" + Edge.MIN);
            Edge.gives(Edge.number(Edge.MIN + 1) + " " + word + " say", "1:" + Edge.MAX);
        }
    }

    private static void realsAreNearest() {
        Edge.sentence("REALS (single precision, IEEE 754, nearest");
        int[] ints = {16777215, 16777216, 16777217, 16777218, 16777219, 16777220, 16777221, Edge.MAX, Edge.MAX - 64,
            Edge.MAX - 63, Edge.MAX - 62, Edge.MIN, Edge.MIN + 64, Edge.MIN + 65, -16777217, -16777219};
        for (int i : ints) {
            Edge.gives(Edge.number(i) + " real say", Edge.real((float) i));
        }
        float most = Float.MAX_VALUE;
        float half = Math.ulp(most) / 2;
        Edge.gives(Edge.bits(most) + " " + Edge.bits(half) + " + say", Edge.real(Float.POSITIVE_INFINITY));
        Edge.gives(Edge.bits(most) + " " + Edge.bits(Math.nextDown(half)) + " + say", Edge.real(most));
        Edge.gives(Edge.bits(-most) + " " + Edge.bits(half) + " - say", Edge.real(Float.NEGATIVE_INFINITY));
        float least = Float.MIN_VALUE;
        Edge.gives(Edge.bits(least) + " 0.5 * say", Edge.real(0));
        Edge.gives(Edge.bits(least) + " 0.5001 * say", Edge.real(least));
        Edge.gives(Edge.bits(-least) + " 0.5 * say", Edge.real(-0f));
        Edge.gives(Edge.bits(least) + " 1.5 * say", Edge.real(2 * least));
        Edge.gives(Edge.bits(Float.MIN_NORMAL) + " " + Edge.bits(least) + " - say", Edge.real(Float.MIN_NORMAL - least));
    }

    private static void oneNan() {
        Edge.sentence("all that are no number are one: NAN");
        int[] nans = {0x7f800001, 0x7fbfffff, 0x7fc00000, 0x7fc00001, 0x7fffffff, 0xff800001, 0xffc00000, 0xffffffff};
        for (int nan : nans) {
            Edge.gives(Edge.bits(nan) + " bits say", "1:2143289344");
            Edge.gives(Edge.bits(nan) + " say", "2:2143289344");
            Edge.gives(Edge.bits(nan) + " neg say " + Edge.bits(nan) + " abs say", "2:2143289344 2:2143289344");
            Edge.gives(Edge.bits(nan) + " 0.0 0.0 / same say", "1:1");
        }
        int[] numbers = {0x7f800000, 0xff800000, 0x7f7fffff, 0x80000000, 0};
        for (int number : numbers) {
            Edge.gives(Edge.bits(number) + " bits say", "1:" + number);
            Edge.gives(Edge.bits(number) + " 0.0 0.0 / same say", "1:0");
        }
    }

    private static void put(String sort, int value, int want) {
        Edge.gives("1 " + sort + " dup " + Edge.number(value) + " swap 0 put 0 at say", "1:" + want);
    }

    private static void narrowPlaces() {
        Edge.sentence("flags (0, 1)");
        put("flags", 0, 0);
        put("flags", 1, 1);
        put("flags", 2, 1);
        put("flags", -1, 1);
        put("flags", 65536, 1);
        put("flags", Edge.MIN, 1);
        Edge.sentence("smalls (-32768 .. 32767)");
        put("smalls", 32767, 32767);
        put("smalls", 32768, -32768);
        put("smalls", -32768, -32768);
        put("smalls", -32769, 32767);
        put("smalls", 65535, -1);
        put("smalls", 65536, 0);
        put("smalls", Edge.MAX, -1);
        put("smalls", Edge.MIN, 0);
        Edge.sentence("signs (0 .. 65535)");
        put("signs", 65535, 65535);
        put("signs", 65536, 0);
        put("signs", 0, 0);
        put("signs", -1, 65535);
        put("signs", -65536, 0);
        put("signs", 32768, 32768);
        put("signs", Edge.MAX, 65535);
        put("signs", Edge.MIN, 0);
        Edge.sentence("ints: all 32 bits of an INT");
        put("ints", Edge.MAX, Edge.MAX);
        put("ints", Edge.MIN, Edge.MIN);
    }

    private static void rowSizes() {
        Edge.sentence("of 0 .. 12 places");
        for (int i = 0; i < SORTS.length; i++) {
            for (int n = 0; n <= 12; n++) {
                Edge.gives(n + " " + SORTS[i] + " dup say len say", (3 + i) + ":" + n + " 1:" + n);
            }
            int[] wrong = {-1, 13, -12, 14, Edge.MIN, Edge.MAX};
            for (int n : wrong) {
                Edge.faults(Edge.number(n) + " " + SORTS[i], Edge.SIZE);
            }
        }
        Edge.gives("0 0 crew dup say len say", "8:0 1:0");
        Edge.gives("12 6 crew dup say len say", "8:12 1:12");
        int[] wrong = {-1, 13, Edge.MIN, Edge.MAX};
        for (int n : wrong) {
            Edge.faults(Edge.number(n) + " 0 crew", Edge.SIZE);
        }
    }

    private static void crewsOfKinds() {
        Edge.sentence("each place an ACTOR of that KIND, or below, or NONE");
        for (int crew = 0; crew < 7; crew++) {
            Edge.gives("2 " + crew + " crew 0 at say", "0:0");
            Edge.gives("2 " + crew + " crew none over 1 put 1 at say", "0:0");
            for (int kind = 0; kind < 7; kind++) {
                Edge.faults(kind + " new 2 " + crew + " crew 1 put", isBelow(kind, crew) ? 0 : Edge.MIX);
            }
        }
    }

    private static void things() {
        Edge.sentence("who has one has that one, not one like it");
        Edge.gives("2 ints dup dup 7 swap 1 put 1 at say 1 at say", "1:7 1:7");
        Edge.gives("2 ints 2 ints same say", "1:0");
        Edge.gives("0 ints dup same say 0 ints 0 ints same say", "1:1 1:0");
        Edge.gives("0 new drop 2 ints dup 0 nth mind! 0 nth pal! 9 0 nth mind 0 put 0 nth pal 0 at say", "1:9");
        Edge.gives("try 1 raise catch end try 1 raise catch end same say", "1:0");
        Game stage = Play.on(1, ": start 0 new drop 0 new drop 1 ints dup 0 nth mind! 1 nth pal! ;"
                + " : t0 0 input if frame me mind none same if me pal else me mind end 0 put end ;");
        stage.advance(3);
        Edge.check("run again", stage.give(0, 1, 1), 2);
        Edge.check("still one thing behind going back", stage.alike(0, 0, 1, 1) ? 1 : 0, 1);
        Edge.check("put by the one", stage.element(0, 0, 0), 2);
        Edge.check("had by the other", stage.element(1, 1, 0), 2);
    }

    private static void kinds() {
        Edge.sentence("KINDS: 0 ACTOR .. 6 RUNNER");
        for (int kind = 0; kind < 7; kind++) {
            Edge.gives(kind + " new kind say", "1:" + kind);
            for (int other = 0; other < 7; other++) {
                Edge.gives(kind + " new " + other + " is say", "1:" + (isBelow(kind, other) ? 1 : 0));
            }
            boolean body = isBelow(kind, 2);
            Edge.faults(kind + " new x", body ? 0 : Edge.KIND);
        }
        int[] wrong = {-1, 7, Edge.MIN, Edge.MAX};
        for (int kind : wrong) {
            Edge.faults(Edge.number(kind) + " new", Edge.KIND);
        }
    }

    private static void atFirst() {
        Edge.sentence("NONE at first .. 0 at first .. HURTS, 0 at first");
        for (int kind = 0; kind < 7; kind++) {
            Game stage = Play.on(1, ": start " + kind + " new drop ;");
            for (int part = 0; part < 6; part++) {
                for (int what = 0; what < 3; what++) {
                    Edge.check("held of kind " + kind, stage.held(0, part, what), 0);
                }
            }
            for (int what = 2; what < 7; what++) {
                Edge.check("actor of kind " + kind, stage.actor(0, what), 0);
            }
        }
        Edge.sentence("a ROW of that sort each, or NONE");
        String[] parts = {"marks", "name", "wear", "way"};
        String[] own = {"flags", "signs", "smalls", "reals"};
        for (int i = 0; i < parts.length; i++) {
            for (String sort : SORTS) {
                Edge.faults("1 " + sort + " 0 new " + parts[i] + "!", sort.equals(own[i]) ? 0 : Edge.KIND);
            }
            Edge.works("none 0 new " + parts[i] + "!");
            Edge.faults("1 0 crew 0 new " + parts[i] + "!", Edge.KIND);
        }
    }

    private static void onStage() {
        Edge.sentence("It has a NUMBER, from 0 on, as they are made (32 in a game)");
        Game stage = Play.on(1, ": start 0 new drop ; : t0 1 new drop 1 new drop 1 new drop 1 new drop ; : t1 me gone ;");
        stage.advance(7);
        Edge.check("made", stage.count(3), 29);
        stage.advance(1);
        Edge.check("32 were made", stage.count(3), 32);
        Edge.check("the last one", stage.actor(31, 0), 1);
        Edge.check("no 33rd", stage.actor(32, 0), Edge.NONE);
        stage.advance(1);
        Edge.check("none more", stage.count(3), 32);
        Edge.check("though the stage has room", stage.count(2), 1);

        Edge.sentence("ON STAGE are 16 at most, in the order in which they were made");
        for (int n = 15; n <= 17; n++) {
            Game full = Play.on(1, ": start " + Edge.repeat("0 new drop ", n) + "0 new say ;");
            Edge.check(n + " and one", full.count(2), 16);
            Edge.check("what new gives behind " + n, full.output(0, 1), n < 16 ? 9 : 0);
            for (int a = 0; a < 16; a++) {
                Edge.check("place of " + a, full.actor(a, 1), a);
            }
        }
        Game gaps = Play.on(1, ": start 5 while dup do 0 new drop 1 - end 1 nth gone 3 nth gone ; : t0 frame 1 = if"
                + " me 0 nth same if 0 new drop end end ;");
        gaps.advance(2);
        int[] places = {0, Edge.NONE, 1, Edge.NONE, 2, 3};
        for (int a = 0; a < places.length; a++) {
            Edge.check("place of " + a, gaps.actor(a, 1), places[a]);
        }
    }

    public static void main(String[] args) {
        intsWrap();
        realsAreNearest();
        oneNan();
        narrowPlaces();
        rowSizes();
        crewsOfKinds();
        things();
        kinds();
        atFirst();
        onStage();
        Play.finish();
    }
}
