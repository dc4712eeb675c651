/** A stage for games that goes back: see README.md, and the document that it names. */
public final class RewindStage {
    public static final int NONE = -1;

    private static final int TAPE_ROOM = 4000;
    private static final int FEED_BYTES = 20;
    private static final int MOST_READS = 60;
    private static final int MOST_AT_ONCE = 16;
    private static final int AHEAD = 12;
    private static final int MOST_RUN = 400;
    private static final int KNOWN_ALREADY = -2;
    private static final int TOO_OLD = -3;
    private static final int TOO_DEAR = -4;
    private static final int READ_TOO_OFTEN = -2;

    private final Reader reader = new Reader(TAPE_ROOM);
    private final Stage stage;
    private final Inputs inputs;
    private int taped;
    private int reads;

    public RewindStage(int players) {
        stage = new Stage(Math.max(1, Math.min(Inputs.MOST_PLAYERS, players)));
        inputs = stage.inputs;
    }

    public int feed(int a, int b, int c, int d, int e) {
        if (taped + FEED_BYTES > TAPE_ROOM) {
            return NONE;
        }
        lay(a);
        lay(b);
        lay(c);
        lay(d);
        lay(e);
        return taped;
    }

    private void lay(int number) {
        for (int shift = 24; shift >= 0 && taped < TAPE_ROOM; shift -= 8) {
            reader.tape[taped] = (byte) (number >>> shift);
            taped++;
        }
    }

    public int end(int n) {
        if (n < 0 || n > taped) {
            return NONE;
        }
        taped = n;
        return n;
    }

    public int book() {
        int length = taped;
        taped = 0;
        if (reads >= MOST_READS) {
            return READ_TOO_OFTEN;
        }
        reads++;
        reader.read(length);
        if (reader.number != 0) {
            return NONE;
        }
        // A book with a fault must leave the one in use alone: the reader has one of its own to write in.
        Book read = reader.book;
        reader.book = stage.machine.book;
        stage.machine.book = read;
        inputs.forget();
        stage.begin();
        return read.definitions;
    }

    public int fault(int what) {
        if (reads == 0) {
            return NONE;
        }
        switch (what) {
            case 0:
                return reader.number;
            case 1:
                return reader.place;
            default:
                return NONE;
        }
    }

    public int advance(int n) {
        if (n < 1 || n > MOST_AT_ONCE) {
            return NONE;
        }
        int ran = 0;
        while (ran < n && stage.mayRun(MOST_RUN, AHEAD)) {
            stage.runFrame();
            ran++;
        }
        return ran;
    }

    public int give(int p, int frame, int bits) {
        int present = stage.now.frame;
        if (!inputs.hasPlayer(p) || bits < 0 || bits > 255) {
            return NONE;
        }
        if (frame < 0 || frame > present + AHEAD) {
            return NONE;
        }
        if (inputs.isKnown(p, frame)) {
            return KNOWN_ALREADY;
        }
        if (frame < present - AHEAD) {
            return TOO_OLD;
        }
        boolean ranOtherwise = frame < present && inputs.taken(p, frame) != bits;
        int again = ranOtherwise ? present - frame : 0;
        if (again > 0 && stage.framesRun + again > MOST_RUN) {
            return TOO_DEAR;
        }
        inputs.learn(p, frame, bits);
        if (again > 0) {
            stage.goBack(frame);
        }
        for (int i = 0; i < again; i++) {
            stage.runFrame();
        }
        return again;
    }

    public int input(int p, int frame, boolean known) {
        if (!inputs.hasPlayer(p) || frame < 0 || frame >= Inputs.FRAMES) {
            return NONE;
        }
        if (known) {
            return inputs.isKnown(p, frame) ? 1 : 0;
        }
        return inputs.taken(p, frame);
    }

    public int count(int what) {
        State now = stage.now;
        switch (what) {
            case 0:
                return now.frame;
            case 1:
                return stage.machine.book.definitions;
            case 2:
                return now.staged;
            case 3:
                return now.made;
            case 4:
                return now.said;
            case 5:
                return stage.framesRun;
            case 6:
                return stage.timesBack;
            case 7:
                return taped;
            case 8:
                return now.seed;
            case 9:
                return stage.machine.fuel;
            default:
                return NONE;
        }
    }

    public int actor(int a, int what) {
        State now = stage.now;
        if (!now.wasMade(a)) {
            return NONE;
        }
        switch (what) {
            case 0:
                return now.kindOf(a);
            case 1:
                return now.placeOnStage(a);
            case 2:
                return now.hurts[a];
            case 3:
            case 4:
            case 5:
            case 6:
                return now.motionOf(a, what - 3);
            default:
                return NONE;
        }
    }

    public int held(int a, int part, int what) {
        State now = stage.now;
        if (!now.hasPart(a, part)) {
            return NONE;
        }
        long value = now.partOf(a, part);
        switch (what) {
            case 0:
                return Value.sort(value);
            case 1:
                return now.numberOf(value);
            case 2:
                return now.extraOf(value);
            default:
                return NONE;
        }
    }

    public int element(int a, int part, int i) throws IndexOutOfBoundsException {
        State now = stage.now;
        long value = now.partOf(a, part);
        if (!Value.isRow(value) || !now.things.hasPlace(Value.data(value), i)) {
            throw new IndexOutOfBoundsException("no such actor, row or place");
        }
        return now.things.placeOf(Value.data(value), i);
    }

    public boolean alike(int a, int part, int b, int other) {
        State now = stage.now;
        return now.hasPart(a, part) && now.hasPart(b, other) && now.partOf(a, part) == now.partOf(b, other);
    }

    public int output(int i, int what) {
        if (i < 0 || i >= stage.now.said || what < 0 || what > 2) {
            return NONE;
        }
        return stage.machine.toldAt(i, what);
    }

    /**
     * The words of Part III, and those without a text that the reader makes of numbers, names and ends.
     *
     * <p>What a word wants stands as a letter for each value, the topmost last; a capital one is looked
     * at behind all the others, since the document looks at some values out of their order on the pile.
     */
    private enum Word {
        NUMBER("", "", 1, Word.FLOW, 0),
        CALL("", "", 0, Word.FLOW, 0),
        RETURN("", "", 0, Word.FREE, 0),
        LOOP("", "", 0, Word.FREE, 0),
        CLOSE("", "", 0, Word.FREE, 0),
        IF("if", "i", 0, Word.FLOW, 0),
        ELSE("else", "", 0, Word.FREE, 0),
        END("end", "", 0, Word.FREE, 0),
        WHILE("while", "", 0, Word.FREE, 0),
        DO("do", "i", 0, Word.FLOW, 0),
        TRY("try", "", 0, Word.FLOW, 0),
        CATCH("catch", "", 0, Word.FREE, 0),
        ALWAYS("always", "", 0, Word.FREE, 0),
        LEAVE("leave", "", 0, Word.FLOW, 0),
        RAISE("raise", "z", 0, Word.FLOW, 0),
        NOTHING("none", "", 1, Word.PILE, 0),
        DUP("dup", "z", 2, Word.PILE, 0),
        DROP("drop", "z", 0, Word.PILE, 0),
        SWAP("swap", "zz", 2, Word.PILE, 0),
        OVER("over", "zz", 3, Word.PILE, 0),
        SAME("same", "zz", 1, Word.PILE, 0),
        ADD("+", "uu", 1, Word.SUM, 0),
        SUBTRACT("-", "uu", 1, Word.SUM, 0),
        MULTIPLY("*", "uu", 1, Word.SUM, 0),
        DIVIDE("/", "uu", 1, Word.SUM, 0),
        REST("%", "uu", 1, Word.SUM, 0),
        LESSER("min", "uu", 1, Word.SUM, 0),
        GREATER("max", "uu", 1, Word.SUM, 0),
        NEGATE("neg", "u", 1, Word.CHANGE, 0),
        AMOUNT("abs", "u", 1, Word.CHANGE, 0),
        FLOOR("floor", "u", 1, Word.CHANGE, 0),
        CEIL("ceil", "u", 1, Word.CHANGE, 0),
        RINT("rint", "u", 1, Word.CHANGE, 0),
        SIGN("sgn", "u", 1, Word.CHANGE, 0),
        ROOT("root", "u", 1, Word.TURN, 0),
        LIKE("like", "uu", 1, Word.TURN, 0),
        TO_INT("int", "u", 1, Word.TURN, 0),
        TO_REAL("real", "u", 1, Word.TURN, 0),
        TO_BITS("bits", "u", 1, Word.TURN, 0),
        OF_BITS("unbits", "i", 1, Word.TURN, 0),
        AND("and", "ii", 1, Word.BITS, 0),
        OR("or", "ii", 1, Word.BITS, 0),
        XOR("xor", "ii", 1, Word.BITS, 0),
        LEFT("shl", "ii", 1, Word.BITS, 0),
        RIGHT("shr", "ii", 1, Word.BITS, 0),
        BELOW("<", "uu", 1, Word.COMPARE, 0),
        NOT_ABOVE("<=", "uu", 1, Word.COMPARE, 0),
        EQUAL("=", "uu", 1, Word.COMPARE, 0),
        INTS("ints", "i", 1, Word.NEW_ROW, Value.INTS),
        REALS("reals", "i", 1, Word.NEW_ROW, Value.REALS),
        FLAGS("flags", "i", 1, Word.NEW_ROW, Value.FLAGS),
        SMALLS("smalls", "i", 1, Word.NEW_ROW, Value.SMALLS),
        SIGNS("signs", "i", 1, Word.NEW_ROW, Value.SIGNS),
        CREW("crew", "ii", 1, Word.NEW_ROW, Value.CREW),
        LENGTH("len", "r", 1, Word.LENGTH_OF, 0),
        AT("at", "ri", 1, Word.FETCH, 0),
        PUT("put", "zri", 0, Word.STORE, 0),
        TWIN("twin", "r", 1, Word.REPEAT, 0),
        COPY("copy", "zizii", 0, Word.COPYING, 0),
        ME("me", "", 1, Word.CAST, 0),
        IT("it", "", 1, Word.CAST, 0),
        NEW("new", "i", 1, Word.CAST, 0),
        KIND("kind", "a", 1, Word.CAST, 0),
        IS("is", "zi", 1, Word.CAST, 0),
        AS("as", "zi", 1, Word.CAST, 0),
        ON("on", "a", 1, Word.CAST, 0),
        GONE("gone", "a", 0, Word.CAST, 0),
        NTH("nth", "i", 1, Word.CAST, 0),
        X("x", "b", 1, Word.MOTION, 0),
        Y("y", "b", 1, Word.MOTION, 1),
        VX("vx", "b", 1, Word.MOTION, 2),
        VY("vy", "b", 1, Word.MOTION, 3),
        SET_X("x!", "Ub", 0, Word.SET_MOTION, 0),
        SET_Y("y!", "Ub", 0, Word.SET_MOTION, 1),
        SET_VX("vx!", "Ub", 0, Word.SET_MOTION, 2),
        SET_VY("vy!", "Ub", 0, Word.SET_MOTION, 3),
        MIND("mind", "a", 1, Word.PART, 0),
        PAL("pal", "a", 1, Word.PART, 1),
        MARKS("marks", "a", 1, Word.PART, 2),
        NAME("name", "a", 1, Word.PART, 3),
        WEAR("wear", "a", 1, Word.PART, 4),
        WAY("way", "a", 1, Word.PART, 5),
        SET_MIND("mind!", "za", 0, Word.SET_PART, 0),
        SET_PAL("pal!", "za", 0, Word.SET_PART, 1),
        SET_MARKS("marks!", "za", 0, Word.SET_PART, 2),
        SET_NAME("name!", "za", 0, Word.SET_PART, 3),
        SET_WEAR("wear!", "za", 0, Word.SET_PART, 4),
        SET_WAY("way!", "za", 0, Word.SET_PART, 5),
        MARK("mark", "ai", 1, Word.PLACE, 2),
        LETTER("letter", "ai", 1, Word.PLACE, 3),
        WORN("worn", "ai", 1, Word.PLACE, 4),
        STEP("step", "ai", 1, Word.PLACE, 5),
        SET_MARK("mark!", "Iai", 0, Word.SET_PLACE, 2),
        SET_LETTER("letter!", "Iai", 0, Word.SET_PLACE, 3),
        SET_WORN("worn!", "Iai", 0, Word.SET_PLACE, 4),
        SET_STEP("step!", "Uai", 0, Word.SET_PLACE, 5),
        SAY("say", "z", 0, Word.WORLD, 0),
        INPUT("input", "i", 1, Word.WORLD, 0),
        FRAME("frame", "", 1, Word.WORLD, 0),
        DICE("dice", "i", 1, Word.WORLD, 0),
        CODE("code", "f", 1, Word.WORLD, 0),
        WHY("why", "f", 1, Word.WORLD, 0);

        static final int FREE = 0;
        static final int FLOW = 1;
        static final int PILE = 2;
        static final int SUM = 3;
        static final int CHANGE = 4;
        static final int TURN = 5;
        static final int BITS = 6;
        static final int COMPARE = 7;
        static final int NEW_ROW = 8;
        static final int LENGTH_OF = 9;
        static final int FETCH = 10;
        static final int STORE = 11;
        static final int REPEAT = 12;
        static final int COPYING = 13;
        static final int CAST = 14;
        static final int MOTION = 15;
        static final int SET_MOTION = 16;
        static final int PART = 17;
        static final int SET_PART = 18;
        static final int PLACE = 19;
        static final int SET_PLACE = 20;
        static final int WORLD = 21;

        private static final Word[] ALL = values();

        final String text;
        final String wants;
        final int gives;
        final int family;
        /** Which of its family: a row's sort, a motion's or a part's number. */
        final int which;

        Word(String text, String wants, int gives, int family, int which) {
            this.text = text;
            this.wants = wants;
            this.gives = gives;
            this.family = family;
            this.which = which;
        }
    }

    /**
     * Single precision on bits: the library may not tell a float's bits, and floats may not be NaN.
     * Every result goes through round, so that all of it is nearest, ties to even.
     */
    private static final class Real {
        static final int NAN = 0x7fc00000;
        static final int INFINITE = 0x7f800000;
        static final int MINUS = 0x80000000;
        static final int AMOUNT = 0x7fffffff;
        static final int ONE = 0x3f800000;
        static final int TWO = 0x40000000;
        static final int EIGHT = 0x41000000;
        static final int HUNDRED = 0x42c80000;
        static final int HALF = 0x3f000000;
        static final int QUARTER = 0x3e800000;
        static final int MINUS_EIGHTH = 0xbe000000;
        static final int THREE_QUARTERS = 0x3f400000;
        static final int DOWN = 0;
        static final int UP = 1;
        static final int NEAREST = 2;

        private static final int LOWEST_SCALE = -149;
        private static final int HIGHEST_SCALE = 104;
        private static final int WIDTH = 24;
        private static final int HIDDEN = 1 << 23;
        /** Far enough to hold a digit's tail apart, near enough for a long. */
        private static final int REACH = 36;

        private Real() {
        }

        static boolean isNan(int a) {
            return (a & AMOUNT) > INFINITE;
        }

        static boolean isInfinite(int a) {
            return (a & AMOUNT) == INFINITE;
        }

        static boolean isZero(int a) {
            return (a & AMOUNT) == 0;
        }

        private static long digits(int a) {
            int fraction = a & (HIDDEN - 1);
            return (a & INFINITE) == 0 ? fraction : fraction | HIDDEN;
        }

        private static int scale(int a) {
            return Math.max((a & INFINITE) >>> 23, 1) - 150;
        }

        /** The real nearest to digits * 2^scale; digits are 0 .. 2^62, the lowest may stand for a tail. */
        static int round(int sign, int scale, long digits) {
            if (digits <= 0) {
                return sign;
            }
            int size = 64 - Long.numberOfLeadingZeros(digits);
            int low = Math.max(scale + size - WIDTH, LOWEST_SCALE);
            int drop = low - scale;
            if (low > HIGHEST_SCALE) {
                return sign | INFINITE;
            }
            if (drop > 62) {
                return sign;
            }
            long kept = digits;
            if (drop <= 0) {
                kept = digits << -drop;
            } else {
                kept = digits >> drop;
                long rest = digits - (kept << drop);
                long half = 1L << (drop - 1);
                if (rest > half || (rest == half && (kept & 1) != 0)) {
                    kept++;
                }
            }
            // A carry out of the digits runs on into the exponent, up to infinity: that is as it should be.
            return sign | (((low - LOWEST_SCALE) << 23) + (int) kept);
        }

        static int ofBits(int bits) {
            return isNan(bits) ? NAN : bits;
        }

        /** The real nearest to number / divisor, both of a written number, divisor above 0. */
        static int ofDecimal(int sign, int number, int divisor) {
            if (number <= 0 || divisor <= 0) {
                return sign;
            }
            int shift = Long.numberOfLeadingZeros(number) - 2;
            long wide = (long) number << shift;
            long quotient = wide / divisor;
            long tail = quotient * divisor == wide ? 0 : 1;
            return round(sign, -shift, quotient | tail);
        }

        static int toInt(int a) {
            if (isNan(a)) {
                return 0;
            }
            int scale = scale(a);
            if (scale > 7) {
                return a < 0 ? Integer.MIN_VALUE : Integer.MAX_VALUE;
            }
            long amount = scale >= 0 ? digits(a) << scale : digits(a) >> Math.min(-scale, 60);
            long whole = a < 0 ? -amount : amount;
            return (int) Math.max(Integer.MIN_VALUE, Math.min(Integer.MAX_VALUE, whole));
        }

        static int negated(int a) {
            return isNan(a) ? NAN : a ^ MINUS;
        }

        static int amount(int a) {
            return a & AMOUNT;
        }

        static int signOf(int a) {
            return isNan(a) || isZero(a) ? a : (a & MINUS) | ONE;
        }

        static int like(int a, int b) {
            if (isNan(a)) {
                return NAN;
            }
            int sign = isNan(b) ? 0 : b & MINUS;
            return (a & AMOUNT) | sign;
        }

        static int add(int a, int b) {
            if (isNan(a) || isNan(b)) {
                return NAN;
            }
            if (isInfinite(a)) {
                return isInfinite(b) && a != b ? NAN : a;
            }
            if (isInfinite(b)) {
                return b;
            }
            boolean swapped = scale(a) < scale(b);
            int far = swapped ? b : a;
            int near = swapped ? a : b;
            int distance = scale(far) - scale(near);
            long tail = digits(near);
            if (distance > REACH) {
                // So far below, it can only tell on which side of a tie the sum lies.
                distance = REACH;
                tail = tail == 0 ? 0 : 1;
            }
            long head = digits(far) << distance;
            long sum = (far < 0 ? -head : head) + (near < 0 ? -tail : tail);
            if (sum == 0) {
                return a & b & MINUS;
            }
            return round(sum < 0 ? MINUS : 0, scale(far) - distance, sum < 0 ? -sum : sum);
        }

        static int multiply(int a, int b) {
            if (isNan(a) || isNan(b)) {
                return NAN;
            }
            int sign = (a ^ b) & MINUS;
            if (isInfinite(a) || isInfinite(b)) {
                return isZero(a) || isZero(b) ? NAN : sign | INFINITE;
            }
            return round(sign, scale(a) + scale(b), digits(a) * digits(b));
        }

        static int divide(int a, int b) {
            if (isNan(a) || isNan(b)) {
                return NAN;
            }
            int sign = (a ^ b) & MINUS;
            if (isInfinite(a)) {
                return isInfinite(b) ? NAN : sign | INFINITE;
            }
            if (isInfinite(b)) {
                return sign;
            }
            long under = digits(b);
            if (under == 0) {
                return isZero(a) ? NAN : sign | INFINITE;
            }
            if (isZero(a)) {
                return sign;
            }
            // All of the long's width for the upper one: else a tiny one leaves too few digits to round.
            int shift = Long.numberOfLeadingZeros(digits(a)) - 2;
            long over = digits(a) << shift;
            long quotient = over / under;
            long tail = quotient * under == over ? 0 : 1;
            return round(sign, scale(a) - shift - scale(b), quotient | tail);
        }

        /** What is left of a by b, exactly, with the sign of a. */
        static int rest(int a, int b) {
            if (isNan(a) || isNan(b) || isInfinite(a) || isZero(b)) {
                return NAN;
            }
            if (isInfinite(b)) {
                return a;
            }
            int distance = scale(a) - scale(b);
            if (distance < -REACH) {
                return a;
            }
            long by = distance < 0 ? digits(b) << -distance : digits(b);
            if (by <= 0) {
                return NAN;
            }
            long left = digits(a) % by;
            for (int i = 0; i < distance; i++) {
                left = (left << 1) % by;
            }
            return round(a & MINUS, Math.min(scale(a), scale(b)), left);
        }

        static int root(int a) {
            if (isNan(a) || isZero(a)) {
                return a;
            }
            if (a < 0) {
                return NAN;
            }
            if (isInfinite(a)) {
                return a;
            }
            int shift = Long.numberOfLeadingZeros(digits(a)) - 3;
            if (((scale(a) - shift) & 1) != 0) {
                shift++;
            }
            long square = digits(a) << shift;
            long side = 0;
            for (long bit = 1L << 31; bit > 0; bit >>= 1) {
                long wider = side | bit;
                if (wider * wider <= square) {
                    side = wider;
                }
            }
            long tail = side * side == square ? 0 : 1;
            return round(0, ((scale(a) - shift) >> 1) - 1, (side << 1) | tail);
        }

        static int whole(int a, int way) {
            if (isNan(a) || scale(a) >= 0) {
                return a;
            }
            int drop = Math.min(-scale(a), 60);
            long kept = digits(a) >> drop;
            long rest = digits(a) - (kept << drop);
            long half = 1L << (drop - 1);
            boolean up = rest > half || (rest == half && (kept & 1) != 0);
            if (way != NEAREST) {
                up = rest != 0 && (way == DOWN) == (a < 0);
            }
            return round(a & MINUS, 0, up ? kept + 1 : kept);
        }

        /** A number that lies as the reals lie, -0 below 0; not for NAN. */
        private static int order(int a) {
            return a < 0 ? a ^ AMOUNT : a;
        }

        static int lesser(int a, int b) {
            if (isNan(a) || isNan(b)) {
                return NAN;
            }
            return order(a) <= order(b) ? a : b;
        }

        static int greater(int a, int b) {
            if (isNan(a) || isNan(b)) {
                return NAN;
            }
            return order(a) >= order(b) ? a : b;
        }

        static boolean isBelow(int a, int b) {
            boolean zeros = isZero(a) && isZero(b);
            return !isNan(a) && !isNan(b) && !zeros && order(a) < order(b);
        }

        static boolean isEqual(int a, int b) {
            boolean zeros = isZero(a) && isZero(b);
            return !isNan(a) && !isNan(b) && (zeros || a == b);
        }
    }

    /** A value is a long: its sort above, and below the int, the bits, or which thing it is. */
    private static final class Value {
        static final long NIL = 0;
        static final int NO_SORT = 0;
        static final int INT = 1;
        static final int REAL = 2;
        static final int INTS = 3;
        static final int REALS = 4;
        static final int FLAGS = 5;
        static final int SMALLS = 6;
        static final int SIGNS = 7;
        static final int CREW = 8;
        static final int ACTOR = 9;
        static final int FAULT = 10;

        private Value() {
        }

        static long of(int sort, int data) {
            return ((long) sort << 32) | (data & 0xffffffffL);
        }

        static int sort(long value) {
            return (int) (value >> 32);
        }

        static int data(long value) {
            return (int) value;
        }

        static boolean isRow(long value) {
            int sort = sort(value);
            return sort >= INTS && sort <= CREW;
        }

        static boolean isThing(long value) {
            int sort = sort(value);
            return (sort >= INTS && sort <= CREW) || sort == FAULT;
        }

        /** The bits of a number that is made a real. */
        static int real(long value) {
            int data = data(value);
            if (sort(value) == REAL) {
                return data;
            }
            long amount = data;
            return Real.round(data & Real.MINUS, 0, amount < 0 ? -amount : amount);
        }
    }

    /** Rows and faults, by number; they hold no other things, so that only actors' parts keep them. */
    private static final class Things {
        static final int MOST_PLACES = 12;

        private final int room;
        /** A row's places, a fault's code. */
        private final int[] sizes;
        /** A crew's kind, a fault's why. */
        private final int[] extras;
        private final int[] places;
        private final int[] moved;
        private int made;

        Things(int room) {
            this.room = room;
            sizes = new int[room];
            extras = new int[room];
            places = new int[room * MOST_PLACES];
            moved = new int[room];
        }

        void clear() {
            made = 0;
        }

        boolean isThere(int id) {
            return id >= 0 && id < made && id < room;
        }

        /** Which thing is new, or NONE when there is no room (a frame's fuel does not pay for so many). */
        int make(int size, int extra, int filling) {
            if (made >= room) {
                return NONE;
            }
            int id = made;
            made++;
            sizes[id] = size;
            extras[id] = extra;
            for (int i = 0; i < MOST_PLACES; i++) {
                places[id * MOST_PLACES + i] = filling;
            }
            return id;
        }

        int sizeOf(int id) {
            return isThere(id) ? sizes[id] : 0;
        }

        int extraOf(int id) {
            return isThere(id) ? extras[id] : 0;
        }

        boolean hasPlace(int id, int i) {
            boolean there = id >= 0 && id < made && id < room;
            return there && i >= 0 && i < sizes[id] && i < MOST_PLACES;
        }

        int placeOf(int id, int i) {
            return hasPlace(id, i) ? places[id * MOST_PLACES + i] : 0;
        }

        void setPlace(int id, int i, int raw) {
            if (hasPlace(id, i)) {
                places[id * MOST_PLACES + i] = raw;
            }
        }

        void copyFrom(Things other) {
            made = Math.min(other.made, room);
            System.arraycopy(other.sizes, 0, sizes, 0, made);
            System.arraycopy(other.extras, 0, extras, 0, made);
            System.arraycopy(other.places, 0, places, 0, made * MOST_PLACES);
        }

        /** Keeps those things alone that the first values have, and tells these where they are now. */
        void tidy(long[] values, int count) {
            int last = Math.min(count, values.length);
            for (int id = 0; id < made && id < room; id++) {
                moved[id] = NONE;
            }
            for (int i = 0; i < last; i++) {
                int id = Value.data(values[i]);
                if (Value.isThing(values[i]) && id >= 0 && id < room) {
                    moved[id] = 0;
                }
            }
            slide();
            for (int i = 0; i < last; i++) {
                int id = Value.data(values[i]);
                if (Value.isThing(values[i]) && id >= 0 && id < room) {
                    values[i] = Value.of(Value.sort(values[i]), moved[id]);
                }
            }
        }

        private void slide() {
            int kept = 0;
            for (int id = 0; id < made && id < room; id++) {
                if (moved[id] != NONE) {
                    moved[id] = kept;
                    sizes[kept] = sizes[id];
                    extras[kept] = extras[id];
                    System.arraycopy(places, id * MOST_PLACES, places, kept * MOST_PLACES, MOST_PLACES);
                    kept++;
                }
            }
            made = kept;
        }
    }

    /** All that goes back with the stage. What was said is only counted: what lies behind is said again. */
    private static final class State {
        static final int MOST_MADE = 32;
        static final int MOST_STAGED = 16;
        static final int PARTS = 6;
        static final int MOTIONS = 4;
        static final int KINDS = 7;
        static final int BODY = 2;

        private static final int[] KIND_ABOVE = {-1, 0, 0, 2, 2, 3, 4};

        int frame;
        int seed = 1;
        int made;
        int staged;
        int said;
        final int[] order = new int[MOST_STAGED];
        final int[] kinds = new int[MOST_MADE];
        final int[] hurts = new int[MOST_MADE];
        final boolean[] gone = new boolean[MOST_MADE];
        final int[] motion = new int[MOST_MADE * MOTIONS];
        final long[] parts = new long[MOST_MADE * PARTS];
        final Things things;

        State(int room) {
            things = new Things(room);
        }

        void clear() {
            frame = 0;
            seed = 1;
            made = 0;
            staged = 0;
            said = 0;
            things.clear();
        }

        void copyFrom(State other) {
            frame = other.frame;
            seed = other.seed;
            made = other.made;
            staged = other.staged;
            said = other.said;
            System.arraycopy(other.order, 0, order, 0, MOST_STAGED);
            System.arraycopy(other.kinds, 0, kinds, 0, MOST_MADE);
            System.arraycopy(other.hurts, 0, hurts, 0, MOST_MADE);
            System.arraycopy(other.motion, 0, motion, 0, MOST_MADE * MOTIONS);
            System.arraycopy(other.parts, 0, parts, 0, MOST_MADE * PARTS);
            for (int a = 0; a < MOST_MADE; a++) {
                gone[a] = other.gone[a];
            }
            things.copyFrom(other.things);
        }

        static boolean isKind(int kind) {
            return kind >= 0 && kind < KINDS;
        }

        static int kindAbove(int kind) {
            return kind >= 0 && kind < KINDS ? KIND_ABOVE[kind] : NONE;
        }

        boolean wasMade(int a) {
            return a >= 0 && a < made && a < MOST_MADE;
        }

        int kindOf(int a) {
            return wasMade(a) ? kinds[a] : NONE;
        }

        boolean isOfKind(int a, int kind) {
            int at = wasMade(a) ? kinds[a] : NONE;
            for (int i = 0; i < KINDS && at != NONE && at != kind; i++) {
                at = kindAbove(at);
            }
            return at != NONE && at == kind;
        }

        /** All kinds from BODY on are below it, so that one look tells. */
        boolean isBody(int a) {
            return wasMade(a) && kinds[a] >= BODY;
        }

        /** The new actor's number, or NONE when there is no room for one. */
        int makeActor(int kind) {
            if (staged >= MOST_STAGED || made >= MOST_MADE) {
                return NONE;
            }
            int a = made;
            made++;
            order[staged] = a;
            staged++;
            kinds[a] = kind;
            hurts[a] = 0;
            gone[a] = false;
            for (int i = 0; i < MOTIONS; i++) {
                motion[a * MOTIONS + i] = 0;
            }
            for (int i = 0; i < PARTS; i++) {
                parts[a * PARTS + i] = Value.NIL;
            }
            return a;
        }

        int actorOnStage(int i) {
            return i >= 0 && i < staged && i < MOST_STAGED ? order[i] : NONE;
        }

        int placeOnStage(int a) {
            for (int i = 0; i < staged && i < MOST_STAGED; i++) {
                if (order[i] == a) {
                    return i;
                }
            }
            return NONE;
        }

        boolean isGone(int a) {
            return !wasMade(a) || gone[a];
        }

        void setGone(int a) {
            if (wasMade(a)) {
                gone[a] = true;
            }
        }

        void hurt(int a) {
            if (wasMade(a)) {
                hurts[a]++;
            }
        }

        void leaveStage() {
            int kept = 0;
            for (int i = 0; i < staged && i < MOST_STAGED; i++) {
                if (!isGone(order[i])) {
                    order[kept] = order[i];
                    kept++;
                }
            }
            staged = kept;
        }

        int motionOf(int a, int which) {
            return wasMade(a) && which >= 0 && which < MOTIONS ? motion[a * MOTIONS + which] : 0;
        }

        void setMotion(int a, int which, int bits) {
            if (wasMade(a) && which >= 0 && which < MOTIONS) {
                motion[a * MOTIONS + which] = bits;
            }
        }

        boolean hasPart(int a, int part) {
            return wasMade(a) && part >= 0 && part < PARTS;
        }

        long partOf(int a, int part) {
            return hasPart(a, part) ? parts[a * PARTS + part] : Value.NIL;
        }

        void setPart(int a, int part, long value) {
            if (hasPart(a, part)) {
                parts[a * PARTS + part] = value;
            }
        }

        /** A value's number, as say tells it. */
        int numberOf(long value) {
            return Value.isThing(value) ? things.sizeOf(Value.data(value)) : Value.data(value);
        }

        int extraOf(long value) {
            boolean hasOne = Value.sort(value) == Value.CREW || Value.sort(value) == Value.FAULT;
            return hasOne ? things.extraOf(Value.data(value)) : 0;
        }
    }

    /** The definitions, each a run of cells that ends with RETURN. */
    private static final class Book {
        static final int MOST_DEFINITIONS = 40;
        static final int MOST_WORDS = 600;
        static final int CELLS = MOST_WORDS + MOST_DEFINITIONS;

        int definitions;
        int filled;
        int start = NONE;
        final long[] names = new long[MOST_DEFINITIONS];
        final int[] starts = new int[MOST_DEFINITIONS];
        final Word[] words = new Word[CELLS];
        final int[] jumps = new int[CELLS];
        final long[] values = new long[CELLS];
        final int[] ticks = new int[State.KINDS];
        final int[] hits = new int[State.KINDS];

        Book() {
            for (int kind = 0; kind < State.KINDS; kind++) {
                ticks[kind] = NONE;
                hits[kind] = NONE;
            }
        }

        void clear() {
            definitions = 0;
            filled = 0;
        }

        void define(long name) {
            if (definitions < MOST_DEFINITIONS) {
                names[definitions] = name;
                starts[definitions] = filled;
                definitions++;
            }
        }

        int find(long name) {
            for (int i = 0; i < definitions && i < MOST_DEFINITIONS; i++) {
                if (names[i] == name) {
                    return i;
                }
            }
            return NONE;
        }

        private static boolean isCell(int cell) {
            return cell >= 0 && cell < CELLS;
        }

        int add(Word word, int jump, long value) {
            int cell = filled;
            if (isCell(cell)) {
                words[cell] = word;
                jumps[cell] = jump;
                values[cell] = value;
                filled++;
            }
            return cell;
        }

        void aim(int cell, int jump) {
            if (isCell(cell)) {
                jumps[cell] = jump;
            }
        }

        Word wordAt(int cell) {
            Word word = isCell(cell) && cell < filled ? words[cell] : Word.RETURN;
            return word == null ? Word.RETURN : word;
        }

        int jumpAt(int cell) {
            return isCell(cell) ? jumps[cell] : 0;
        }

        long valueAt(int cell) {
            return isCell(cell) ? values[cell] : Value.NIL;
        }

        int startOf(int definition) {
            return definition >= 0 && definition < MOST_DEFINITIONS ? starts[definition] : filled;
        }

        /** A kind without an event of its own has that of the kind above; kinds stand behind those above. */
        void bindEvents() {
            start = find(Reader.pack("start", 0, 0));
            for (int kind = 0; kind < State.KINDS; kind++) {
                int above = State.kindAbove(kind);
                int tick = find(Reader.pack("t", kind, 1));
                int hit = find(Reader.pack("h", kind, 1));
                boolean alone = above < 0 || above >= State.KINDS;
                ticks[kind] = tick != NONE || alone ? tick : ticks[above];
                hits[kind] = hit != NONE || alone ? hit : hits[above];
            }
        }

        int tickOf(int kind) {
            return State.isKind(kind) ? ticks[kind] : NONE;
        }

        int hitOf(int kind) {
            return State.isKind(kind) ? hits[kind] : NONE;
        }
    }

    /** Reads a book into cells; one pass, the open structures on a stack of their own. */
    private static final class Reader {
        private static final int CANNOT_COME = 1;
        private static final int NAMING_FAULT = 2;
        private static final int TOO_MANY = 3;

        private static final int LONGEST_WORD = 10;
        private static final int DEEPEST = 12;
        private static final int NAME_BASE = 37;

        private static final int OUTSIDE = 0;
        private static final int NAMING = 1;
        private static final int INSIDE = 2;

        /** The latest reading's fault (0 without), and its place (NONE without). */
        int number;
        int place = NONE;

        final byte[] tape;
        Book book = new Book();
        private int length;
        private int mode;
        private int bodyWords;
        private int open;
        private final Word[] opened = new Word[DEEPEST];
        private final int[] openCells = new int[DEEPEST];

        Reader(int room) {
            tape = new byte[room];
        }

        /** A name as a number, so that names are looked for without texts; digit is put behind if wanted. */
        static long pack(String letters, int digit, int digits) {
            long name = 0;
            for (int i = 0; i < letters.length(); i++) {
                name = name * NAME_BASE + letters.charAt(i) - 'a' + 11;
            }
            return digits == 0 ? name : name * NAME_BASE + digit + 1;
        }

        void read(int size) {
            length = Math.min(size, tape.length);
            book.clear();
            number = 0;
            place = NONE;
            mode = OUTSIDE;
            bodyWords = 0;
            open = 0;
            int from = skipBlanks(0);
            for (int words = 0; words <= length && from < length && number == 0; words++) {
                int to = skipWord(from);
                readWord(from, to);
                from = skipBlanks(to);
            }
            if (number == 0 && (mode != OUTSIDE || book.definitions == 0)) {
                refuse(CANNOT_COME, length);
            }
            if (number == 0) {
                resolveNames();
            }
            if (number == 0) {
                book.bindEvents();
            }
        }

        private void refuse(int fault, int at) {
            number = fault;
            place = at;
        }

        private int byteAt(int i) {
            return i >= 0 && i < tape.length ? tape[i] & 255 : 0;
        }

        private static boolean isBlank(int letter) {
            return letter == 32 || letter == 10;
        }

        private int skipBlanks(int from) {
            int at = from;
            while (at < length && isBlank(byteAt(at))) {
                at++;
            }
            return at;
        }

        private int skipWord(int from) {
            int at = from;
            while (at < length && !isBlank(byteAt(at))) {
                at++;
            }
            return at;
        }

        private void readWord(int from, int to) {
            boolean single = to - from == 1;
            if (to - from > LONGEST_WORD) {
                refuse(CANNOT_COME, from);
            } else if (mode == NAMING) {
                readDefinitionName(from, to);
            } else if (mode == INSIDE && single && byteAt(from) == ';') {
                endDefinition(from);
            } else if (mode == INSIDE) {
                readBodyWord(from, to);
            } else if (!single || byteAt(from) != ':') {
                refuse(CANNOT_COME, from);
            } else if (book.definitions >= Book.MOST_DEFINITIONS) {
                refuse(TOO_MANY, from);
            } else {
                mode = NAMING;
            }
        }

        private void readDefinitionName(int from, int to) {
            if (!isName(from, to) || findWord(from, to) != null) {
                refuse(CANNOT_COME, from);
                return;
            }
            long name = packWord(from, to);
            if (book.find(name) != NONE) {
                refuse(NAMING_FAULT, from);
                return;
            }
            book.define(name);
            mode = INSIDE;
        }

        private void endDefinition(int from) {
            if (open > 0) {
                refuse(CANNOT_COME, from);
                return;
            }
            book.add(Word.RETURN, 0, Value.NIL);
            mode = OUTSIDE;
        }

        private void readBodyWord(int from, int to) {
            Word word = findWord(from, to);
            boolean name = word == null && isName(from, to);
            boolean comes = word == null ? name || isNumber(from, to) : canCome(word);
            boolean opens = word == Word.IF || word == Word.WHILE || word == Word.TRY;
            if (!comes) {
                refuse(CANNOT_COME, from);
                return;
            }
            if (bodyWords >= Book.MOST_WORDS || (opens && open >= DEEPEST)) {
                refuse(TOO_MANY, from);
                return;
            }
            bodyWords++;
            if (name) {
                book.add(Word.CALL, from, packWord(from, to));
            } else if (word == null) {
                book.add(Word.NUMBER, 0, numberOf(from, to));
            } else if (opens) {
                openStructure(word);
            } else {
                addWord(word);
            }
        }

        private Word findWord(int from, int to) {
            for (int i = 0; i < Word.ALL.length; i++) {
                if (isText(Word.ALL[i].text, from, to)) {
                    return Word.ALL[i];
                }
            }
            return null;
        }

        private boolean isText(String text, int from, int to) {
            if (text.length() != to - from) {
                return false;
            }
            for (int i = 0; i < text.length(); i++) {
                if (text.charAt(i) != byteAt(from + i)) {
                    return false;
                }
            }
            return true;
        }

        private static boolean isDigit(int letter) {
            return letter >= '0' && letter <= '9';
        }

        private static boolean isLetter(int letter) {
            return letter >= 'a' && letter <= 'z';
        }

        private boolean isName(int from, int to) {
            for (int i = from; i < to; i++) {
                if (!isLetter(byteAt(i)) && !isDigit(byteAt(i))) {
                    return false;
                }
            }
            return from < to && isLetter(byteAt(from));
        }

        private long packWord(int from, int to) {
            long name = 0;
            for (int i = from; i < to; i++) {
                int letter = byteAt(i);
                name = name * NAME_BASE + (isDigit(letter) ? letter - '0' + 1 : letter - 'a' + 11);
            }
            return name;
        }

        private int skipDigits(int from, int to) {
            int at = from;
            while (at < to && isDigit(byteAt(at))) {
                at++;
            }
            return at;
        }

        private boolean isNumber(int from, int to) {
            int first = byteAt(from) == '-' ? from + 1 : from;
            int point = skipDigits(first, to);
            int whole = point - first;
            if (point == to) {
                return whole >= 1 && whole <= 9;
            }
            int behind = to - point - 1;
            boolean ends = byteAt(point) == '.' && skipDigits(point + 1, to) == to;
            return ends && whole >= 1 && whole <= 4 && behind >= 1 && behind <= 4;
        }

        private long numberOf(int from, int to) {
            boolean minus = byteAt(from) == '-';
            int amount = 0;
            int divisor = 0;
            for (int i = minus ? from + 1 : from; i < to; i++) {
                if (isDigit(byteAt(i))) {
                    amount = amount * 10 + byteAt(i) - '0';
                    divisor *= 10;
                } else {
                    divisor = 1;
                }
            }
            if (divisor == 0) {
                return Value.of(Value.INT, minus ? -amount : amount);
            }
            return Value.of(Value.REAL, Real.ofDecimal(minus ? Real.MINUS : 0, amount, divisor));
        }

        private Word innermost() {
            return open > 0 && open <= DEEPEST ? opened[open - 1] : Word.RETURN;
        }

        private int innermostCell() {
            return open > 0 && open <= DEEPEST ? openCells[open - 1] : NONE;
        }

        private boolean canCome(Word word) {
            Word within = innermost();
            switch (word) {
                case ELSE:
                    return within == Word.IF;
                case DO:
                    return within == Word.WHILE;
                case CATCH:
                    return within == Word.TRY;
                case ALWAYS:
                    return within == Word.TRY || within == Word.CATCH;
                case END:
                    return open > 0 && within != Word.WHILE && within != Word.TRY;
                default:
                    return true;
            }
        }

        private void openStructure(Word word) {
            // A while does nothing by itself: its place is where its end jumps back to.
            int cell = word == Word.WHILE ? book.filled : book.add(word, 0, Value.NIL);
            if (open < DEEPEST) {
                opened[open] = word;
                openCells[open] = cell;
                open++;
            }
        }

        private void turnInto(Word word, int cell) {
            if (open > 0 && open <= DEEPEST) {
                opened[open - 1] = word;
                openCells[open - 1] = cell;
            }
        }

        private void addWord(Word word) {
            int before = innermostCell();
            switch (word) {
                case ELSE:
                    turnInto(word, book.add(word, 0, Value.NIL));
                    book.aim(before, book.filled);
                    break;
                case DO:
                    // Until its end is known, the jump keeps where the while began.
                    turnInto(word, book.add(word, before, Value.NIL));
                    break;
                case CATCH:
                case ALWAYS:
                    book.aim(before, book.filled);
                    turnInto(word, book.add(word, 0, Value.NIL));
                    break;
                case END:
                    endStructure(before);
                    break;
                default:
                    book.add(word, 0, Value.NIL);
                    break;
            }
        }

        private void endStructure(int cell) {
            Word within = innermost();
            open = Math.max(0, open - 1);
            if (within == Word.DO) {
                book.add(Word.LOOP, book.jumpAt(cell), Value.NIL);
            }
            book.aim(cell, book.filled);
            if (within == Word.CATCH || within == Word.ALWAYS) {
                book.add(Word.CLOSE, 0, Value.NIL);
            }
        }

        /** A call's cell keeps its place in the jump and its name in the value until all names are known. */
        private void resolveNames() {
            for (int cell = 0; cell < book.filled && number == 0; cell++) {
                if (book.wordAt(cell) == Word.CALL) {
                    int definition = book.find(book.valueAt(cell));
                    if (definition == NONE) {
                        refuse(NAMING_FAULT, book.jumpAt(cell));
                    }
                    book.aim(cell, definition);
                }
            }
        }
    }

    /** What each player is known to do in each frame. */
    private static final class Inputs {
        static final int MOST_PLAYERS = 4;
        static final int FRAMES = 141;

        final int players;
        private final int[] known = new int[MOST_PLAYERS * FRAMES];

        Inputs(int players) {
            this.players = players;
            for (int i = 0; i < known.length; i++) {
                known[i] = NONE;
            }
        }

        void forget() {
            for (int i = 0; i < known.length; i++) {
                known[i] = NONE;
            }
        }

        boolean hasPlayer(int p) {
            return p >= 0 && p < players && p < MOST_PLAYERS;
        }

        private int knownAt(int p, int frame) {
            boolean there = hasPlayer(p) && frame >= 0 && frame < FRAMES;
            return there ? known[p * FRAMES + frame] : NONE;
        }

        boolean isKnown(int p, int frame) {
            return knownAt(p, frame) != NONE;
        }

        boolean allKnown(int frame) {
            for (int p = 0; p < players; p++) {
                if (!isKnown(p, frame)) {
                    return false;
                }
            }
            return true;
        }

        /** The known one, or else the latest known one of a frame ahead, or else 0. */
        int taken(int p, int frame) {
            int latest = NONE;
            for (int at = Math.min(frame, FRAMES - 1); at >= 0 && latest == NONE; at--) {
                latest = knownAt(p, at);
            }
            return Math.max(latest, 0);
        }

        void learn(int p, int frame, int bits) {
            if (hasPlayer(p) && frame >= 0 && frame < FRAMES) {
                known[p * FRAMES + frame] = bits;
            }
        }
    }

    /** The calls and tries that stand open in an event, the innermost last. */
    private static final class Trail {
        static final int MOST_CALLS = 12;
        static final int CALL = 0;
        static final int BODY = 1;
        static final int CATCHING = 2;
        static final int AT_LAST = 3;
        /** What waits behind an always-part: nothing, a leave, or (from 0 on) which fault. */
        static final int NORMAL = -2;
        static final int LEAVING = -1;
        /** Twelve calls, with twelve tries in each. */
        static final int ROOM = MOST_CALLS * 13;

        int height;
        int calls;
        private final int[] phases = new int[ROOM];
        private final int[] cells = new int[ROOM];
        private final int[] pileHeights = new int[ROOM];
        private final int[] pendings = new int[ROOM];

        void clear() {
            height = 0;
            calls = 0;
        }

        private void open(int phase, int cell, int pileHeight) {
            if (height < ROOM) {
                phases[height] = phase;
                cells[height] = cell;
                pileHeights[height] = pileHeight;
                pendings[height] = NORMAL;
                height++;
            }
        }

        void openCall(int back) {
            calls++;
            open(CALL, back, 0);
        }

        void openTry(int cell, int pileHeight) {
            open(BODY, cell, pileHeight);
        }

        private boolean hasTop() {
            return height > 0 && height <= ROOM;
        }

        int phase() {
            return hasTop() ? phases[height - 1] : CALL;
        }

        /** Of a call the cell to go back to, of a try its own cell. */
        int cell() {
            return hasTop() ? cells[height - 1] : NONE;
        }

        int pileHeight() {
            return hasTop() ? pileHeights[height - 1] : 0;
        }

        int pending() {
            return hasTop() ? pendings[height - 1] : NORMAL;
        }

        void enter(int phase, int pending) {
            if (hasTop()) {
                phases[height - 1] = phase;
                pendings[height - 1] = pending;
            }
        }

        void drop() {
            if (hasTop() && phases[height - 1] == CALL) {
                calls--;
            }
            height = Math.max(0, height - 1);
        }
    }

    /** Does the words of one event. */
    private static final class Machine {
        static final int FUEL = 500;

        private static final int MOST_STEPS = 1000000;
        private static final int FAULT_COST = 40;
        private static final int MOST_PILED = 32;
        /** Above the 32 only caught faults can lie, and a frame's fuel pays for twelve of them. */
        private static final int PILE_ROOM = 64;
        private static final int MOST_SAID = 200;
        private static final int SAID_FAULT = 10;
        private static final int SAID_DRY = 11;

        private static final int OK = 0;
        private static final int NOTHING = 1;
        private static final int PLACE = 2;
        private static final int SIZE = 3;
        private static final int KIND = 4;
        private static final int MIX = 5;
        private static final int ZERO = 6;
        private static final int EMPTY = 7;
        private static final int DEEP = 8;
        private static final int RAISED = 9;
        /** How else a word may end: with a fault that is there already, by leave, without fuel. */
        private static final int PASSED = 10;
        private static final int LEFT = 11;
        private static final int DRY = 12;
        /** What waited behind an always-part passes on: it was paid for when it came. */
        private static final int RESUMED = 13;

        /** The sort of row that each part of an actor has, 0 where it is any value. */
        private static final int[] PART_SORTS = {0, 0, Value.FLAGS, Value.SIGNS, Value.SMALLS, Value.REALS};

        int fuel = FUEL;
        boolean dry;
        Book book = new Book();
        final State now;
        final Inputs inputs;
        private final Trail trail = new Trail();
        private final long[] pile = new long[PILE_ROOM];
        private final int[] told = new int[MOST_SAID * 3];
        private final int[] moving = new int[Things.MOST_PLACES];
        private int top;
        private int cell;
        private int me;
        private int it;
        private boolean over;
        private int fate;
        private int why;
        private int passed;

        Machine(int players, int room) {
            inputs = new Inputs(players);
            now = new State(room);
        }

        void refuel() {
            fuel = FUEL;
            dry = false;
        }

        int toldAt(int i, int what) {
            return i >= 0 && i < MOST_SAID && what >= 0 && what < 3 ? told[i * 3 + what] : NONE;
        }

        private void tell(int what, int number) {
            int i = now.said;
            if (i >= 0 && i < MOST_SAID) {
                told[i * 3] = now.frame;
                told[i * 3 + 1] = what;
                told[i * 3 + 2] = number;
                now.said++;
            }
        }

        private void push(long value) {
            if (top >= 0 && top < PILE_ROOM) {
                pile[top] = value;
                top++;
            }
        }

        private void pushInt(int number) {
            push(Value.of(Value.INT, number));
        }

        private void pushReal(int bits) {
            push(Value.of(Value.REAL, bits));
        }

        /** The i-th of the values that the word at hand took; they lie above the top until it gives. */
        private long took(int i) {
            int at = top + i;
            return at >= 0 && at < PILE_ROOM ? pile[at] : Value.NIL;
        }

        private int tookInt(int i) {
            return Value.data(took(i));
        }

        /** Does an event: me and it are NONE where there is none. */
        void run(int definition, int actor, int other) {
            begin(definition, actor, other);
            for (int steps = 0; steps < MOST_STEPS && !over; steps++) {
                Word word = book.wordAt(cell);
                cell++;
                int code = word.family == Word.FREE ? OK : prepare(word);
                if (code == OK) {
                    code = perform(word);
                }
                if (code != OK) {
                    settle(code);
                }
            }
            if (fate >= 0) {
                now.hurt(me);
                tell(SAID_FAULT, now.things.sizeOf(fate));
            }
        }

        private int perform(Word word) {
            switch (word.family) {
                case Word.FREE:
                    return pass(word);
                case Word.FLOW:
                    return flow(word);
                case Word.PILE:
                    return rearrange(word);
                case Word.SUM:
                    return tookInts() ? sumInts(word) : sumReals(word);
                case Word.CHANGE:
                    return Value.sort(took(0)) == Value.INT ? changeInt(word) : changeReal(word);
                case Word.TURN:
                    return turn(word);
                case Word.BITS:
                    return combine(word);
                case Word.COMPARE:
                    return compare(word);
                case Word.NEW_ROW:
                    return makeRow(word.which);
                case Word.LENGTH_OF:
                    pushInt(now.things.sizeOf(tookInt(0)));
                    return OK;
                case Word.FETCH:
                    return fetch(took(0), tookInt(1));
                case Word.STORE:
                    return store(took(1), tookInt(2), took(0));
                case Word.REPEAT:
                    return twin(took(0));
                case Word.COPYING:
                    return copyPlaces();
                case Word.CAST:
                    return cast(word);
                case Word.MOTION:
                    pushReal(now.motionOf(tookInt(0), word.which));
                    return OK;
                case Word.SET_MOTION:
                    now.setMotion(tookInt(1), word.which, Value.real(took(0)));
                    return OK;
                case Word.PART:
                    push(now.partOf(tookInt(0), word.which));
                    return OK;
                case Word.SET_PART:
                    return setPart(word.which);
                case Word.PLACE:
                    return fetch(now.partOf(tookInt(0), word.which), tookInt(1));
                case Word.SET_PLACE:
                    return store(now.partOf(tookInt(1), word.which), tookInt(2), took(0));
                default:
                    return askWorld(word);
            }
        }

        private void begin(int definition, int actor, int other) {
            me = actor;
            it = other;
            top = 0;
            over = false;
            fate = Trail.NORMAL;
            trail.clear();
            trail.openCall(NONE);
            cell = book.startOf(definition);
        }

        /** Pays for a word and takes its values, if they are there and are what it wants. */
        private int prepare(Word word) {
            if (fuel < 1) {
                return DRY;
            }
            fuel--;
            int takes = word.wants.length();
            int behind = top - takes + word.gives;
            if (top < takes) {
                return EMPTY;
            }
            boolean deep = behind > MOST_PILED && behind > top;
            if (deep || (word == Word.CALL && trail.calls >= Trail.MOST_CALLS)) {
                return DEEP;
            }
            top -= takes;
            int code = OK;
            for (int i = 0; i < takes && code == OK; i++) {
                boolean first = word.wants.charAt(i) >= 'a';
                code = first ? lookAt(took(i), word.wants.charAt(i)) : OK;
            }
            for (int i = 0; i < takes && code == OK; i++) {
                boolean last = word.wants.charAt(i) < 'a';
                code = last ? lookAt(took(i), word.wants.charAt(i)) : OK;
            }
            return code;
        }

        private int lookAt(long value, char want) {
            if (want == 'z') {
                return OK;
            }
            int sort = Value.sort(value);
            if (sort == Value.NO_SORT) {
                return NOTHING;
            }
            boolean fits = false;
            switch (want) {
                case 'i':
                case 'I':
                    fits = sort == Value.INT;
                    break;
                case 'u':
                case 'U':
                    fits = sort == Value.INT || sort == Value.REAL;
                    break;
                case 'a':
                    fits = sort == Value.ACTOR;
                    break;
                case 'b':
                    fits = sort == Value.ACTOR && now.isBody(Value.data(value));
                    break;
                case 'r':
                    fits = Value.isRow(value);
                    break;
                default:
                    fits = sort == Value.FAULT;
                    break;
            }
            return fits ? OK : KIND;
        }

        private int pay(int more) {
            if (fuel < more) {
                return DRY;
            }
            fuel -= more;
            return OK;
        }

        /** Goes on behind a word that did not end as words do. */
        private void settle(int code) {
            if (code == LEFT || code == RESUMED) {
                unwind(code == LEFT ? Trail.LEAVING : passed);
                return;
            }
            int thing = NONE;
            if (code != DRY && fuel >= FAULT_COST) {
                fuel -= FAULT_COST;
                int reason = code == RAISED ? why : 0;
                thing = code == PASSED ? passed : now.things.make(code, reason, 0);
            }
            if (thing == NONE) {
                dry = true;
                over = true;
                tell(SAID_DRY, 0);
                return;
            }
            unwind(thing);
        }

        /** Leaves what stands open until a part of it has to be done: a catch, an always, a call's rest. */
        private void unwind(int pending) {
            for (int i = 0; i < Trail.ROOM && trail.height > 0; i++) {
                if (trail.phase() != Trail.CALL && turnsTo(pending)) {
                    return;
                }
                boolean call = trail.phase() == Trail.CALL;
                cell = trail.cell();
                trail.drop();
                if (call && pending == Trail.LEAVING && trail.height > 0) {
                    return;
                }
            }
            over = true;
            fate = pending;
        }

        /** Whether the innermost try has a part that comes now; if so, that part is next. */
        private boolean turnsTo(int pending) {
            int part = book.jumpAt(trail.cell());
            if (book.wordAt(part) == Word.CATCH) {
                if (trail.phase() == Trail.BODY && pending >= 0) {
                    top = Math.min(top, trail.pileHeight());
                    push(Value.of(Value.FAULT, pending));
                    trail.enter(Trail.CATCHING, Trail.NORMAL);
                    cell = part + 1;
                    return true;
                }
                part = book.jumpAt(part);
            }
            if (trail.phase() == Trail.AT_LAST || book.wordAt(part) != Word.ALWAYS) {
                return false;
            }
            trail.enter(Trail.AT_LAST, pending);
            cell = part + 1;
            return true;
        }

        /** The words that cost nothing: where the parts of a structure meet, and where a definition ends. */
        private int pass(Word word) {
            switch (word) {
                case RETURN:
                    return LEFT;
                case ALWAYS:
                    trail.enter(Trail.AT_LAST, Trail.NORMAL);
                    break;
                case CLOSE:
                    return close();
                default:
                    cell = book.jumpAt(cell - 1);
                    break;
            }
            return OK;
        }

        private int close() {
            int pending = trail.pending();
            trail.drop();
            passed = pending;
            return pending == Trail.NORMAL ? OK : RESUMED;
        }

        private int flow(Word word) {
            int at = cell - 1;
            switch (word) {
                case NUMBER:
                    push(book.valueAt(at));
                    break;
                case CALL:
                    trail.openCall(cell);
                    cell = book.startOf(book.jumpAt(at));
                    break;
                case TRY:
                    trail.openTry(at, top);
                    break;
                case LEAVE:
                    return LEFT;
                case RAISE:
                    return raise(took(0));
                default:
                    if (tookInt(0) == 0) {
                        cell = book.jumpAt(at);
                    }
                    break;
            }
            return OK;
        }

        private int raise(long value) {
            switch (Value.sort(value)) {
                case Value.NO_SORT:
                    return NOTHING;
                case Value.INT:
                    why = Value.data(value);
                    return RAISED;
                case Value.FAULT:
                    passed = Value.data(value);
                    return PASSED;
                default:
                    return KIND;
            }
        }

        private int rearrange(Word word) {
            long first = took(0);
            long second = took(1);
            switch (word) {
                case NOTHING:
                    push(Value.NIL);
                    break;
                case DUP:
                    push(first);
                    push(first);
                    break;
                case SWAP:
                    push(second);
                    push(first);
                    break;
                case OVER:
                    push(first);
                    push(second);
                    push(first);
                    break;
                case SAME:
                    pushInt(first == second ? 1 : 0);
                    break;
                default:
                    break;
            }
            return OK;
        }

        private boolean tookInts() {
            return Value.sort(took(0)) == Value.INT && Value.sort(took(1)) == Value.INT;
        }

        private int sumInts(Word word) {
            int u = tookInt(0);
            int v = tookInt(1);
            boolean divides = word == Word.DIVIDE || word == Word.REST;
            if (divides && v == 0) {
                return ZERO;
            }
            switch (word) {
                case ADD:
                    pushInt(u + v);
                    break;
                case SUBTRACT:
                    pushInt(u - v);
                    break;
                case MULTIPLY:
                    pushInt(u * v);
                    break;
                case DIVIDE:
                    pushInt(v == 0 ? 0 : u / v);
                    break;
                case REST:
                    pushInt(v == 0 ? 0 : u % v);
                    break;
                case LESSER:
                    pushInt(Math.min(u, v));
                    break;
                default:
                    pushInt(Math.max(u, v));
                    break;
            }
            return OK;
        }

        private int sumReals(Word word) {
            int u = Value.real(took(0));
            int v = Value.real(took(1));
            switch (word) {
                case ADD:
                    pushReal(Real.add(u, v));
                    break;
                case SUBTRACT:
                    pushReal(Real.add(u, Real.negated(v)));
                    break;
                case MULTIPLY:
                    pushReal(Real.multiply(u, v));
                    break;
                case DIVIDE:
                    pushReal(Real.divide(u, v));
                    break;
                case REST:
                    pushReal(Real.rest(u, v));
                    break;
                case LESSER:
                    pushReal(Real.lesser(u, v));
                    break;
                default:
                    pushReal(Real.greater(u, v));
                    break;
            }
            return OK;
        }

        private int changeInt(Word word) {
            int u = tookInt(0);
            switch (word) {
                case NEGATE:
                    pushInt(-u);
                    break;
                case AMOUNT:
                    pushInt(u < 0 ? -u : u);
                    break;
                case SIGN:
                    pushInt(Integer.signum(u));
                    break;
                default:
                    pushInt(u);
                    break;
            }
            return OK;
        }

        private int changeReal(Word word) {
            int u = tookInt(0);
            switch (word) {
                case NEGATE:
                    pushReal(Real.negated(u));
                    break;
                case AMOUNT:
                    pushReal(Real.amount(u));
                    break;
                case FLOOR:
                    pushReal(Real.whole(u, Real.DOWN));
                    break;
                case CEIL:
                    pushReal(Real.whole(u, Real.UP));
                    break;
                case RINT:
                    pushReal(Real.whole(u, Real.NEAREST));
                    break;
                default:
                    pushReal(Real.signOf(u));
                    break;
            }
            return OK;
        }

        private int turn(Word word) {
            long u = took(0);
            switch (word) {
                case ROOT:
                    pushReal(Real.root(Value.real(u)));
                    break;
                case LIKE:
                    pushReal(Real.like(Value.real(u), Value.real(took(1))));
                    break;
                case TO_INT:
                    pushInt(Value.sort(u) == Value.INT ? Value.data(u) : Real.toInt(Value.data(u)));
                    break;
                case TO_REAL:
                    pushReal(Value.real(u));
                    break;
                case TO_BITS:
                    pushInt(Value.real(u));
                    break;
                default:
                    pushReal(Real.ofBits(Value.data(u)));
                    break;
            }
            return OK;
        }

        private int combine(Word word) {
            int i = tookInt(0);
            int j = tookInt(1);
            switch (word) {
                case AND:
                    pushInt(i & j);
                    break;
                case OR:
                    pushInt(i | j);
                    break;
                case XOR:
                    pushInt(i ^ j);
                    break;
                case LEFT:
                    pushInt(i << (j & 31));
                    break;
                default:
                    pushInt(i >> (j & 31));
                    break;
            }
            return OK;
        }

        private int compare(Word word) {
            boolean ints = tookInts();
            int u = ints ? tookInt(0) : Value.real(took(0));
            int v = ints ? tookInt(1) : Value.real(took(1));
            boolean below = ints ? u < v : Real.isBelow(u, v);
            boolean equal = ints ? u == v : Real.isEqual(u, v);
            boolean holds = false;
            switch (word) {
                case BELOW:
                    holds = below;
                    break;
                case EQUAL:
                    holds = equal;
                    break;
                default:
                    holds = below || equal;
                    break;
            }
            pushInt(holds ? 1 : 0);
            return OK;
        }

        private int makeRow(int sort) {
            int size = tookInt(0);
            int kind = sort == Value.CREW ? tookInt(1) : 0;
            if (size < 0 || size > Things.MOST_PLACES) {
                return SIZE;
            }
            if (!State.isKind(kind)) {
                return KIND;
            }
            if (pay(size) != OK) {
                return DRY;
            }
            push(Value.of(sort, now.things.make(size, kind, sort == Value.CREW ? NONE : 0)));
            return OK;
        }

        private int fetch(long row, int i) {
            int id = Value.data(row);
            if (row == Value.NIL) {
                return NOTHING;
            }
            if (!now.things.hasPlace(id, i)) {
                return PLACE;
            }
            int raw = now.things.placeOf(id, i);
            switch (Value.sort(row)) {
                case Value.REALS:
                    pushReal(raw);
                    break;
                case Value.CREW:
                    push(raw == NONE ? Value.NIL : Value.of(Value.ACTOR, raw));
                    break;
                default:
                    pushInt(raw);
                    break;
            }
            return OK;
        }

        private int store(long row, int i, long value) {
            int sort = Value.sort(row);
            int id = Value.data(row);
            if (row == Value.NIL) {
                return NOTHING;
            }
            int code = lookAt(value, wantOf(sort, value));
            if (code != OK) {
                return code;
            }
            if (!now.things.hasPlace(id, i)) {
                return PLACE;
            }
            boolean cast = sort == Value.CREW && value != Value.NIL;
            if (cast && !now.isOfKind(Value.data(value), now.things.extraOf(id))) {
                return MIX;
            }
            int data = sort == Value.REALS ? Value.real(value) : Value.data(value);
            now.things.setPlace(id, i, value == Value.NIL ? NONE : narrowed(sort, data));
            return OK;
        }

        /** The letter of what may come into a row's places; none at all into a crew's. */
        private static char wantOf(int sort, long value) {
            if (sort == Value.CREW) {
                return value == Value.NIL ? 'z' : 'a';
            }
            return sort == Value.REALS ? 'u' : 'i';
        }

        private static int narrowed(int sort, int data) {
            switch (sort) {
                case Value.FLAGS:
                    return data != 0 ? 1 : 0;
                case Value.SMALLS:
                    return (short) data;
                case Value.SIGNS:
                    return data & 0xffff;
                default:
                    return data;
            }
        }

        private int twin(long row) {
            Things things = now.things;
            int id = Value.data(row);
            int size = things.sizeOf(id);
            if (pay(size) != OK) {
                return DRY;
            }
            int copy = things.make(size, things.extraOf(id), 0);
            for (int i = 0; i < size; i++) {
                things.setPlace(copy, i, things.placeOf(id, i));
            }
            push(Value.of(Value.sort(row), copy));
            return OK;
        }

        private int copyPlaces() {
            long from = took(0);
            long i = tookInt(1);
            long to = took(2);
            long j = tookInt(3);
            long n = tookInt(4);
            if (n >= 1 && n <= Things.MOST_PLACES && pay((int) n) != OK) {
                return DRY;
            }
            if (from == Value.NIL || to == Value.NIL) {
                return NOTHING;
            }
            if (!Value.isRow(from) || Value.sort(from) != Value.sort(to)) {
                return MIX;
            }
            int source = Value.data(from);
            int target = Value.data(to);
            boolean inside = i + n <= now.things.sizeOf(source) && j + n <= now.things.sizeOf(target);
            if (n < 0 || i < 0 || j < 0 || !inside) {
                return PLACE;
            }
            for (int k = 0; k < n && k < moving.length; k++) {
                moving[k] = now.things.placeOf(source, (int) i + k);
            }
            return copyMoving(target, (int) j, (int) n, Value.sort(to) == Value.CREW);
        }

        private int copyMoving(int target, int j, int n, boolean crew) {
            int kind = now.things.extraOf(target);
            for (int k = 0; k < n && k < moving.length; k++) {
                if (crew && moving[k] != NONE && !now.isOfKind(moving[k], kind)) {
                    return MIX;
                }
                now.things.setPlace(target, j + k, moving[k]);
            }
            return OK;
        }

        private void pushActor(int a) {
            push(a == NONE ? Value.NIL : Value.of(Value.ACTOR, a));
        }

        private int cast(Word word) {
            int a = tookInt(0);
            switch (word) {
                case ME:
                    pushActor(me);
                    return OK;
                case IT:
                    pushActor(it);
                    return OK;
                case NEW:
                    if (!State.isKind(a)) {
                        return KIND;
                    }
                    pushActor(now.makeActor(a));
                    return OK;
                case KIND:
                    pushInt(now.kindOf(a));
                    return OK;
                case ON:
                    pushInt(now.placeOnStage(a) == NONE ? 0 : 1);
                    return OK;
                case GONE:
                    now.setGone(a);
                    return OK;
                case NTH:
                    if (now.actorOnStage(a) == NONE) {
                        return PLACE;
                    }
                    pushActor(now.actorOnStage(a));
                    return OK;
                default:
                    return judge(word, took(0), tookInt(1));
            }
        }

        private int judge(Word word, long value, int kind) {
            if (!State.isKind(kind)) {
                return KIND;
            }
            boolean such = Value.sort(value) == Value.ACTOR && now.isOfKind(Value.data(value), kind);
            if (word == Word.IS) {
                pushInt(such ? 1 : 0);
                return OK;
            }
            if (!such && value != Value.NIL) {
                return KIND;
            }
            push(value);
            return OK;
        }

        private int setPart(int part) {
            long value = took(0);
            int sort = part >= 0 && part < PART_SORTS.length ? PART_SORTS[part] : 0;
            if (sort != 0 && value != Value.NIL && Value.sort(value) != sort) {
                return KIND;
            }
            now.setPart(tookInt(1), part, value);
            return OK;
        }

        private int askWorld(Word word) {
            int i = tookInt(0);
            switch (word) {
                case SAY:
                    tell(Value.sort(took(0)), now.numberOf(took(0)));
                    return OK;
                case INPUT:
                    if (!inputs.hasPlayer(i)) {
                        return PLACE;
                    }
                    // Only start has no actor, and no frame whose inputs could be meant.
                    pushInt(me == NONE ? 0 : inputs.taken(i, now.frame));
                    return OK;
                case FRAME:
                    pushInt(now.frame);
                    return OK;
                case DICE:
                    if (i < 1) {
                        return SIZE;
                    }
                    now.seed = now.seed * 1103515245 + 12345;
                    pushInt((now.seed >>> 16) % i);
                    return OK;
                case CODE:
                    pushInt(now.things.sizeOf(i));
                    return OK;
                default:
                    pushInt(now.things.extraOf(i));
                    return OK;
            }
        }
    }

    /** The frames: ticks, moves and touches, and the way back to an earlier one. */
    private static final class Stage {
        private static final int LAST_FRAME = 120;
        /** Inputs may be twelve frames late: a state as each of these frames began. */
        private static final int SAVED = 12;
        /** Behind a frame actors can have this many things; in it, each word that makes one costs fuel. */
        private static final int KEPT_THINGS = State.MOST_MADE * State.PARTS;
        private static final int THINGS = KEPT_THINGS + Machine.FUEL + 8;

        private static final int X = 0;
        private static final int Y = 1;
        private static final int VX = 2;
        private static final int VY = 3;

        private static final int DRIFTER = 3;
        private static final int WALKER = 4;
        private static final int KITE = 5;
        private static final int RUNNER = 6;

        final Machine machine;
        final State now;
        final Inputs inputs;
        int framesRun;
        int timesBack;
        private final State[] saved = new State[SAVED];
        private final int[] bodies = new int[State.MOST_STAGED];

        Stage(int players) {
            machine = new Machine(players, THINGS);
            now = machine.now;
            inputs = machine.inputs;
            for (int i = 0; i < SAVED; i++) {
                saved[i] = new State(KEPT_THINGS);
            }
        }

        void begin() {
            now.clear();
            machine.refuel();
            if (machine.book.start != NONE) {
                machine.run(machine.book.start, NONE, NONE);
            }
        }

        boolean mayRun(int mostRun, int ahead) {
            boolean due = now.frame < ahead || inputs.allKnown(now.frame - ahead);
            return due && now.frame < LAST_FRAME && framesRun < mostRun;
        }

        void goBack(int frame) {
            now.copyFrom(saved[Math.floorMod(frame, SAVED)]);
            timesBack++;
        }

        void runFrame() {
            now.things.tidy(now.parts, now.made * State.PARTS);
            saved[Math.floorMod(now.frame, SAVED)].copyFrom(now);
            machine.refuel();
            // The bound is looked at anew each time: those that come meanwhile tick, too.
            for (int i = 0; i < now.staged; i++) {
                int a = now.actorOnStage(i);
                int tick = dueTick(a);
                if (tick != NONE) {
                    machine.run(tick, a, NONE);
                }
            }
            moveAll();
            int touching = gatherBodies();
            for (int i = 0; i < touching; i++) {
                for (int j = i + 1; j < touching; j++) {
                    int a = bodies[i];
                    int b = bodies[j];
                    boolean near = isNear(a, b, X) && isNear(a, b, Y);
                    int first = near ? dueHit(a, b) : NONE;
                    if (first != NONE) {
                        machine.run(first, a, b);
                    }
                    int second = near ? dueHit(b, a) : NONE;
                    if (second != NONE) {
                        machine.run(second, b, a);
                    }
                }
            }
            now.leaveStage();
            now.frame++;
            framesRun++;
        }

        /** The definition of the actor's tick, or NONE if it has none, or none more is done. */
        private int dueTick(int a) {
            return machine.dry || now.isGone(a) ? NONE : machine.book.tickOf(now.kindOf(a));
        }

        private int dueHit(int a, int other) {
            boolean due = !machine.dry && !now.isGone(a) && !now.isGone(other);
            return due ? machine.book.hitOf(now.kindOf(a)) : NONE;
        }

        private boolean isNear(int a, int b, int which) {
            int between = Real.add(now.motionOf(a, which), Real.negated(now.motionOf(b, which)));
            return Real.isBelow(Real.amount(between), Real.TWO);
        }

        /** Kept apart from the stage's own order: those that come during the touches do not touch yet. */
        private int gatherBodies() {
            int gathered = 0;
            for (int i = 0; i < now.staged && i < State.MOST_STAGED; i++) {
                int a = now.actorOnStage(i);
                if (now.isBody(a)) {
                    bodies[gathered] = a;
                    gathered++;
                }
            }
            return gathered;
        }

        private void moveAll() {
            for (int i = 0; i < now.staged; i++) {
                int a = now.actorOnStage(i);
                if (now.isBody(a)) {
                    move(a, now.kindOf(a));
                }
            }
        }

        private void move(int a, int kind) {
            boolean floats = kind == DRIFTER || kind == KITE;
            pull(a, floats, kind == KITE || kind == RUNNER);
            now.setMotion(a, X, Real.add(now.motionOf(a, X), now.motionOf(a, VX)));
            now.setMotion(a, Y, Real.add(now.motionOf(a, Y), now.motionOf(a, VY)));
            if (floats) {
                wrap(a, X);
                wrap(a, Y);
                return;
            }
            bounce(a, X, VX);
            bounce(a, Y, VY);
            boolean walks = kind == WALKER || kind == RUNNER;
            if (walks && Real.isEqual(now.motionOf(a, Y), Real.HUNDRED)) {
                now.setMotion(a, VY, now.motionOf(a, VY) & Real.MINUS);
            }
            int speed = now.motionOf(a, VX);
            if (kind == RUNNER && Real.isBelow(Real.EIGHT, Real.amount(speed))) {
                now.setMotion(a, VX, (speed & Real.MINUS) | Real.EIGHT);
            }
        }

        private void pull(int a, boolean floats, boolean drags) {
            int pull = floats ? Real.MINUS_EIGHTH : Real.QUARTER;
            now.setMotion(a, VY, Real.add(now.motionOf(a, VY), pull));
            if (drags) {
                now.setMotion(a, VX, Real.multiply(now.motionOf(a, VX), Real.THREE_QUARTERS));
                now.setMotion(a, VY, Real.multiply(now.motionOf(a, VY), Real.THREE_QUARTERS));
            }
        }

        private void wrap(int a, int which) {
            int at = now.motionOf(a, which);
            if (!Real.isBelow(at, 0) && !Real.isBelow(Real.HUNDRED, at)) {
                return;
            }
            int left = Real.rest(at, Real.HUNDRED);
            now.setMotion(a, which, Real.isBelow(left, 0) ? Real.add(left, Real.HUNDRED) : left);
        }

        private void bounce(int a, int which, int speed) {
            int at = now.motionOf(a, which);
            int half = Real.multiply(Real.amount(now.motionOf(a, speed)), Real.HALF);
            if (Real.isBelow(at, 0)) {
                now.setMotion(a, which, 0);
                now.setMotion(a, speed, half);
            } else if (Real.isBelow(Real.HUNDRED, at)) {
                now.setMotion(a, which, Real.HUNDRED);
                now.setMotion(a, speed, Real.negated(half));
            }
        }
    }
}
