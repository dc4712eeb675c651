import java.util.ArrayList;
import java.util.Arrays;
import java.util.HashSet;
import java.util.LinkedHashMap;
import java.util.List;
import java.util.Map;
import java.util.Set;

/**
 * The document once more, written another way: a tree that is walked, Java's floats, Java's exceptions for
 * faults, and going back as a run from the very start. The tests compare the class with it.
 */
final class Model {
    static final Set<String> WORDS = new HashSet<>(Arrays.asList(("if else end while do try catch always "
            + "none dup drop swap over same + - * / % min max neg abs floor ceil rint sgn root like int real "
            + "bits unbits and or xor shl shr < <= = ints reals flags smalls signs crew len at put twin copy "
            + "me it new kind is as on gone nth x y vx vy x! y! vx! vy! mind pal mind! pal! marks name wear way "
            + "marks! name! wear! way! mark letter worn step mark! letter! worn! step! say input frame dice "
            + "raise code why leave").split(" ")));
    static final int[] ABOVE = {-1, 0, 0, 2, 2, 3, 4};

    static final class BookFault extends Exception {
        private static final long serialVersionUID = 1;
        final int number;
        final int place;

        BookFault(int number, int place) {
            this.number = number;
            this.place = place;
        }
    }

    static final class Fault {
        final int code;
        final int why;

        Fault(int code, int why) {
            this.code = code;
            this.why = why;
        }
    }

    static final class Thrown extends RuntimeException {
        private static final long serialVersionUID = 1;
        final transient Fault fault;

        Thrown(Fault fault) {
            super(null, null, false, false);
            this.fault = fault;
        }
    }

    static final class Leave extends RuntimeException {
        private static final long serialVersionUID = 1;

        Leave() {
            super(null, null, false, false);
        }
    }

    static final class Dry extends RuntimeException {
        private static final long serialVersionUID = 1;

        Dry() {
            super(null, null, false, false);
        }
    }

    static final class Row {
        final int sort;
        final int kind;
        final Object[] places;

        Row(int sort, int kind, int size) {
            this.sort = sort;
            this.kind = kind;
            places = new Object[size];
            Arrays.fill(places, sort == 8 ? null : sort == 4 ? (Object) 0f : (Object) 0);
        }
    }

    static final class Actor {
        final int number;
        final int kind;
        int hurts;
        boolean gone;
        float x;
        float y;
        float vx;
        float vy;
        final Object[] parts = new Object[6];

        Actor(int number, int kind) {
            this.number = number;
            this.kind = kind;
        }

        boolean is(int k) {
            for (int at = kind; at >= 0; at = ABOVE[at]) {
                if (at == k) {
                    return true;
                }
            }
            return false;
        }
    }

    /** A word, a number, a name, or a structure with its bodies. */
    static final class Node {
        final String word;
        final Object number;
        final String name;
        final List<Node> first = new ArrayList<>();
        List<Node> second;
        List<Node> third;

        Node(String word, Object number, String name) {
            this.word = word;
            this.number = number;
            this.name = name;
        }
    }

    // ---- the book

    static final class Parser {
        private final List<String> words = new ArrayList<>();
        private final List<Integer> at = new ArrayList<>();
        private final int length;
        private int next;
        private int bodyWords;
        private String unknown;
        private final List<Object[]> uses = new ArrayList<>();
        final Map<String, List<Node>> book = new LinkedHashMap<>();

        Parser(String text) {
            length = text.length();
            int i = 0;
            while (i < length) {
                if (text.charAt(i) == ' ' || text.charAt(i) == '\n') {
                    i++;
                    continue;
                }
                int from = i;
                while (i < length && text.charAt(i) != ' ' && text.charAt(i) != '\n') {
                    i++;
                }
                words.add(text.substring(from, i));
                at.add(from);
            }
        }

        private String peek() {
            return next < words.size() ? words.get(next) : null;
        }

        private BookFault refuse(int number) {
            return new BookFault(number, next < words.size() ? at.get(next) : length);
        }

        void parse() throws BookFault {
            do {
                if (!":".equals(peek())) {
                    throw refuse(1);
                }
                if (book.size() == 40) {
                    throw refuse(3);
                }
                next++;
                String name = peek();
                if (name == null || !isName(name)) {
                    throw refuse(1);
                }
                if (book.containsKey(name)) {
                    throw refuse(2);
                }
                List<Node> body = new ArrayList<>();
                book.put(name, body);
                next++;
                String stop = body(body, 0);
                if (!";".equals(stop)) {
                    throw refuse(1);
                }
                next++;
            } while (peek() != null);
            for (Object[] use : uses) {
                if (!book.containsKey(use[0])) {
                    throw new BookFault(2, (Integer) use[1]);
                }
            }
        }

        private static boolean isName(String word) {
            return word.length() <= 10 && word.matches("[a-z][a-z0-9]*") && !WORDS.contains(word);
        }

        private void countWord() throws BookFault {
            if (bodyWords == 600) {
                throw refuse(3);
            }
            bodyWords++;
            next++;
        }

        /** Reads on to a word that ends a body, and leaves that one to be read. */
        private String body(List<Node> into, int depth) throws BookFault {
            while (true) {
                String word = peek();
                if (word == null || word.length() > 10) {
                    throw refuse(1);
                }
                if (word.matches(";|else|end|do|catch|always")) {
                    return word;
                }
                if (word.matches("-?[0-9]{1,9}")) {
                    countWord();
                    into.add(new Node(null, Integer.valueOf(word), null));
                } else if (word.matches("-?[0-9]{1,4}\\.[0-9]{1,4}")) {
                    countWord();
                    into.add(new Node(null, Float.valueOf(word), null));
                } else if (word.matches("if|while|try")) {
                    if (depth == 12) {
                        throw refuse(3);
                    }
                    countWord();
                    into.add(structure(word, depth + 1));
                } else if (WORDS.contains(word)) {
                    countWord();
                    into.add(new Node(word, null, null));
                } else if (isName(word)) {
                    uses.add(new Object[] {word, at.get(next)});
                    countWord();
                    into.add(new Node(null, null, word));
                } else {
                    throw refuse(1);
                }
            }
        }

        private Node structure(String word, int depth) throws BookFault {
            Node node = new Node(word, null, null);
            String stop = body(node.first, depth);
            if (word.equals("if") && stop.equals("else")) {
                countWord();
                node.second = new ArrayList<>();
                stop = body(node.second, depth);
            } else if (word.equals("while")) {
                if (!stop.equals("do")) {
                    throw refuse(1);
                }
                countWord();
                node.second = new ArrayList<>();
                stop = body(node.second, depth);
            } else if (word.equals("try")) {
                if (!stop.equals("catch") && !stop.equals("always")) {
                    throw refuse(1);
                }
                if (stop.equals("catch")) {
                    countWord();
                    node.second = new ArrayList<>();
                    stop = body(node.second, depth);
                }
                if (stop.equals("always")) {
                    countWord();
                    node.third = new ArrayList<>();
                    stop = body(node.third, depth);
                }
            }
            if (!stop.equals("end")) {
                throw refuse(1);
            }
            countWord();
            return node;
        }
    }

    // ---- the stage

    private final int players;
    private Map<String, List<Node>> book = new LinkedHashMap<>();
    private final Integer[][] known;
    private int framesRun;
    private int timesBack;
    private int bookFault = -1;
    private int bookPlace = -1;

    private int frame;
    private int seed = 1;
    private int fuel = 500;
    private boolean dry;
    private List<Actor> made = new ArrayList<>();
    private List<Actor> staged = new ArrayList<>();
    private List<int[]> output = new ArrayList<>();

    private List<Object> pile = new ArrayList<>();
    private int calls;
    private Actor me;
    private Actor it;

    Model(int players) {
        this.players = Math.max(1, Math.min(4, players));
        known = new Integer[this.players][141];
    }

    int read(String text) {
        Parser parser = new Parser(text);
        try {
            parser.parse();
        } catch (BookFault fault) {
            bookFault = fault.number;
            bookPlace = fault.place;
            return -1;
        }
        bookFault = 0;
        bookPlace = -1;
        book = parser.book;
        for (Integer[] row : known) {
            Arrays.fill(row, null);
        }
        begin();
        return book.size();
    }

    int fault(int what) {
        return what == 0 ? bookFault : bookPlace;
    }

    private void begin() {
        frame = 0;
        seed = 1;
        fuel = 500;
        dry = false;
        made = new ArrayList<>();
        staged = new ArrayList<>();
        output = new ArrayList<>();
        if (book.containsKey("start")) {
            event("start", null, null);
        }
    }

    private int taken(int p, int f) {
        for (int at = f; at >= 0; at--) {
            if (known[p][at] != null) {
                return known[p][at];
            }
        }
        return 0;
    }

    int input(int p, int f, boolean isKnown) {
        if (p < 0 || p >= players || f < 0 || f > 140) {
            return -1;
        }
        return isKnown ? (known[p][f] == null ? 0 : 1) : taken(p, f);
    }

    int advance(int n) {
        if (n < 1 || n > 16) {
            return -1;
        }
        int ran = 0;
        for (; ran < n; ran++) {
            boolean waits = false;
            for (int p = 0; p < players; p++) {
                waits |= frame >= 12 && known[p][frame - 12] == null;
            }
            if (waits || frame == 120 || framesRun == 400) {
                break;
            }
            runFrame();
            framesRun++;
        }
        return ran;
    }

    int give(int p, int f, int bits) {
        if (p < 0 || p >= players || bits < 0 || bits > 255 || f < 0 || f > frame + 12) {
            return -1;
        }
        if (known[p][f] != null) {
            return -2;
        }
        if (f <= frame - 13) {
            return -3;
        }
        int again = f < frame && taken(p, f) != bits ? frame - f : 0;
        if (again > 0 && framesRun + again > 400) {
            return -4;
        }
        known[p][f] = bits;
        if (again > 0) {
            int until = frame;
            begin();
            while (frame < until) {
                runFrame();
            }
            framesRun += again;
            timesBack++;
        }
        return again;
    }

    private List<Node> eventOf(String letter, Actor a) {
        for (int k = a.kind; k >= 0; k = ABOVE[k]) {
            if (book.containsKey(letter + k)) {
                return book.get(letter + k);
            }
        }
        return null;
    }

    private void runFrame() {
        fuel = 500;
        dry = false;
        for (int i = 0; i < staged.size(); i++) {
            Actor a = staged.get(i);
            if (!a.gone && !dry && eventOf("t", a) != null) {
                event(eventOf("t", a), a, null);
            }
        }
        for (Actor a : staged) {
            if (a.is(2)) {
                move(a);
            }
        }
        List<Actor> bodies = new ArrayList<>();
        for (Actor a : staged) {
            if (a.is(2)) {
                bodies.add(a);
            }
        }
        for (int i = 0; i < bodies.size(); i++) {
            for (int j = i + 1; j < bodies.size(); j++) {
                Actor a = bodies.get(i);
                Actor b = bodies.get(j);
                if (a.gone || b.gone || !(Math.abs(a.x - b.x) < 2) || !(Math.abs(a.y - b.y) < 2)) {
                    continue;
                }
                if (!dry && eventOf("h", a) != null) {
                    event(eventOf("h", a), a, b);
                }
                if (!dry && !a.gone && !b.gone && eventOf("h", b) != null) {
                    event(eventOf("h", b), b, a);
                }
            }
        }
        staged.removeIf(a -> a.gone);
        frame++;
    }

    private static void move(Actor a) {
        if (a.is(3)) {
            a.vy = a.vy - 0.125f;
        } else {
            a.vy = a.vy + 0.25f;
        }
        if (a.is(5) || a.is(6)) {
            a.vx = a.vx * 0.75f;
            a.vy = a.vy * 0.75f;
        }
        a.x = a.x + a.vx;
        a.y = a.y + a.vy;
        if (a.is(3)) {
            a.x = around(a.x);
            a.y = around(a.y);
            return;
        }
        if (a.x < 0) {
            a.x = 0;
            a.vx = Math.abs(a.vx) / 2;
        } else if (a.x > 100) {
            a.x = 100;
            a.vx = -(Math.abs(a.vx) / 2);
        }
        if (a.y < 0) {
            a.y = 0;
            a.vy = Math.abs(a.vy) / 2;
        } else if (a.y > 100) {
            a.y = 100;
            a.vy = -(Math.abs(a.vy) / 2);
        }
        if (a.is(4) && a.y == 100) {
            a.vy = Float.isNaN(a.vy) ? 0 : Math.copySign(0f, a.vy);
        }
        if (a.is(6) && Math.abs(a.vx) > 8) {
            a.vx = Math.copySign(8f, a.vx);
        }
    }

    private static float around(float at) {
        if (!(at < 0) && !(at > 100)) {
            return at;
        }
        float left = at % 100f;
        return left < 0 ? left + 100f : left;
    }

    // ---- the words

    private void tell(int what, int number) {
        if (output.size() < 200) {
            output.add(new int[] {frame, what, number});
        }
    }

    private void event(String name, Actor who, Actor other) {
        event(book.get(name), who, other);
    }

    private void event(List<Node> body, Actor who, Actor other) {
        me = who;
        it = other;
        pile = new ArrayList<>();
        calls = 1;
        try {
            runAll(body);
        } catch (Leave left) {
            // the event's definition is done
        } catch (Thrown thrown) {
            if (who != null) {
                who.hurts++;
            }
            tell(10, thrown.fault.code);
        } catch (Dry none) {
            dry = true;
            tell(11, 0);
        }
    }

    private void pay(int cost) {
        if (fuel < cost) {
            throw new Dry();
        }
        fuel -= cost;
    }

    private Thrown fault(int code, int why) {
        pay(40);
        return new Thrown(new Fault(code, why));
    }

    private void need(int takes, int gives) {
        if (pile.size() < takes) {
            throw fault(7, 0);
        }
        int behind = pile.size() - takes + gives;
        if (behind > 32 && behind > pile.size()) {
            throw fault(8, 0);
        }
    }

    private Object pop() {
        return pile.remove(pile.size() - 1);
    }

    private void push(Object value) {
        pile.add(value);
    }

    private void runAll(List<Node> body) {
        for (Node node : body) {
            run(node);
        }
    }

    private void run(Node node) {
        if (node.number != null) {
            pay(1);
            need(0, 1);
            push(node.number);
        } else if (node.name != null) {
            pay(1);
            if (calls == 12) {
                throw fault(8, 0);
            }
            calls++;
            try {
                runAll(book.get(node.name));
            } catch (Leave left) {
                // that definition is done
            } finally {
                calls--;
            }
        } else if (node.word.equals("if")) {
            if (truth()) {
                runAll(node.first);
            } else if (node.second != null) {
                runAll(node.second);
            }
        } else if (node.word.equals("while")) {
            runAll(node.first);
            while (truth()) {
                runAll(node.second);
                runAll(node.first);
            }
        } else if (node.word.equals("try")) {
            pay(1);
            runTry(node);
        } else {
            pay(1);
            need(takes(node.word), gives(node.word));
            perform(node.word);
        }
    }

    private boolean truth() {
        pay(1);
        need(1, 0);
        return anInt(pop()) != 0;
    }

    private void runTry(Node node) {
        int height = pile.size();
        RuntimeException passes = null;
        try {
            try {
                runAll(node.first);
            } catch (Thrown thrown) {
                if (node.second == null) {
                    throw thrown;
                }
                while (pile.size() > height) {
                    pop();
                }
                push(thrown.fault);
                runAll(node.second);
            }
        } catch (Thrown | Leave thrown) {
            passes = thrown;
        }
        if (node.third != null) {
            runAll(node.third);
        }
        if (passes != null) {
            throw passes;
        }
    }

    private static final String TAKES = " dup1 drop1 swap2 over2 same2 +2 -2 *2 /2 %2 min2 max2 neg1 abs1 floor1 "
            + "ceil1 rint1 sgn1 root1 like2 int1 real1 bits1 unbits1 and2 or2 xor2 shl2 shr2 <2 <=2 =2 ints1 reals1 "
            + "flags1 smalls1 signs1 crew2 len1 at2 put3 twin1 copy5 new1 kind1 is2 as2 on1 gone1 nth1 x1 y1 vx1 vy1 "
            + "x!2 y!2 vx!2 vy!2 mind1 pal1 mind!2 pal!2 marks1 name1 wear1 way1 marks!2 name!2 wear!2 way!2 "
            + "mark2 letter2 worn2 step2 mark!3 letter!3 worn!3 step!3 say1 input1 dice1 raise1 code1 why1 ";
    private static final Set<String> SILENT = new HashSet<>(Arrays.asList("drop", "put", "copy", "gone", "x!", "y!",
            "vx!", "vy!", "mind!", "pal!", "marks!", "name!", "wear!", "way!", "mark!", "letter!", "worn!", "step!",
            "say", "raise", "leave"));

    static int takes(String word) {
        int at = TAKES.indexOf(" " + word);
        while (at >= 0 && !Character.isDigit(TAKES.charAt(at + 1 + word.length()))) {
            at = TAKES.indexOf(" " + word, at + 1);
        }
        return at < 0 ? 0 : TAKES.charAt(at + 1 + word.length()) - '0';
    }

    static int gives(String word) {
        switch (word) {
            case "dup":
            case "swap":
                return 2;
            case "over":
                return 3;
            default:
                return SILENT.contains(word) ? 0 : 1;
        }
    }

    private int anInt(Object z) {
        if (z == null) {
            throw fault(1, 0);
        }
        if (!(z instanceof Integer)) {
            throw fault(4, 0);
        }
        return (Integer) z;
    }

    private Object aNumber(Object z) {
        if (z == null) {
            throw fault(1, 0);
        }
        if (!(z instanceof Integer) && !(z instanceof Float)) {
            throw fault(4, 0);
        }
        return z;
    }

    private static float asReal(Object u) {
        return u instanceof Float ? (Float) u : (float) (int) (Integer) u;
    }

    private <T> T a(Class<T> type, Object z) {
        if (z == null) {
            throw fault(1, 0);
        }
        if (!type.isInstance(z)) {
            throw fault(4, 0);
        }
        return type.cast(z);
    }

    private Actor aBody(Object z) {
        Actor b = a(Actor.class, z);
        if (!b.is(2)) {
            throw fault(4, 0);
        }
        return b;
    }

    private void perform(String word) {
        int takes = takes(word);
        Object[] z = new Object[takes];
        for (int i = takes - 1; i >= 0; i--) {
            z[i] = pop();
        }
        if (!pileWord(word, z) && !numberWord(word, z) && !rowWord(word, z) && !actorWord(word, z)
                && !partWord(word, z) && !worldWord(word, z)) {
            throw new IllegalStateException("no word " + word);
        }
    }

    private static boolean same(Object a, Object b) {
        if (a instanceof Integer && b instanceof Integer) {
            return a.equals(b);
        }
        if (a instanceof Float && b instanceof Float) {
            return Float.floatToIntBits((Float) a) == Float.floatToIntBits((Float) b);
        }
        return a == b;
    }

    private boolean pileWord(String word, Object[] z) {
        switch (word) {
            case "none":
                push(null);
                return true;
            case "dup":
                push(z[0]);
                push(z[0]);
                return true;
            case "drop":
                return true;
            case "swap":
                push(z[1]);
                push(z[0]);
                return true;
            case "over":
                push(z[0]);
                push(z[1]);
                push(z[0]);
                return true;
            case "same":
                push(same(z[0], z[1]) ? 1 : 0);
                return true;
            default:
                return false;
        }
    }

    private boolean numberWord(String word, Object[] z) {
        switch (word) {
            case "+": case "-": case "*": case "/": case "%": case "min": case "max": case "<": case "<=": case "=":
                aNumber(z[0]);
                aNumber(z[1]);
                if (z[0] instanceof Integer && z[1] instanceof Integer) {
                    push(ints(word, (Integer) z[0], (Integer) z[1]));
                } else {
                    push(reals(word, asReal(z[0]), asReal(z[1])));
                }
                return true;
            case "neg": case "abs": case "floor": case "ceil": case "rint": case "sgn":
                aNumber(z[0]);
                push(z[0] instanceof Integer ? one(word, (int) (Integer) z[0]) : one(word, (float) (Float) z[0]));
                return true;
            case "root":
                push((float) Math.sqrt(asReal(aNumber(z[0]))));
                return true;
            case "like": {
                aNumber(z[0]);
                aNumber(z[1]);
                float sign = asReal(z[1]);
                push(Math.copySign(asReal(z[0]), Float.isNaN(sign) ? 1f : sign));
                return true;
            }
            case "int":
                aNumber(z[0]);
                push(z[0] instanceof Integer ? (int) (Integer) z[0] : (int) (float) (Float) z[0]);
                return true;
            case "real":
                push(asReal(aNumber(z[0])));
                return true;
            case "bits":
                push(Float.floatToIntBits(asReal(aNumber(z[0]))));
                return true;
            case "unbits":
                push(Float.intBitsToFloat(anInt(z[0])));
                return true;
            case "and": case "or": case "xor": case "shl": case "shr": {
                int i = anInt(z[0]);
                int j = anInt(z[1]);
                push(word.equals("and") ? i & j : word.equals("or") ? i | j : word.equals("xor") ? i ^ j
                        : word.equals("shl") ? i << j : i >> j);
                return true;
            }
            default:
                return false;
        }
    }

    private int ints(String word, int u, int v) {
        switch (word) {
            case "+":
                return u + v;
            case "-":
                return u - v;
            case "*":
                return u * v;
            case "/":
            case "%":
                if (v == 0) {
                    throw fault(6, 0);
                }
                return word.equals("/") ? u / v : u % v;
            case "min":
                return Math.min(u, v);
            case "max":
                return Math.max(u, v);
            case "<":
                return u < v ? 1 : 0;
            case "<=":
                return u <= v ? 1 : 0;
            default:
                return u == v ? 1 : 0;
        }
    }

    private static Object reals(String word, float u, float v) {
        switch (word) {
            case "+":
                return u + v;
            case "-":
                return u - v;
            case "*":
                return u * v;
            case "/":
                return u / v;
            case "%":
                return u % v;
            case "min":
                return Math.min(u, v);
            case "max":
                return Math.max(u, v);
            case "<":
                return u < v ? 1 : 0;
            case "<=":
                return u <= v ? 1 : 0;
            default:
                return u == v ? 1 : 0;
        }
    }

    private static Object one(String word, int u) {
        switch (word) {
            case "neg":
                return -u;
            case "abs":
                return Math.abs(u);
            case "sgn":
                return Integer.signum(u);
            default:
                return u;
        }
    }

    private static Object one(String word, float u) {
        switch (word) {
            case "neg":
                return -u;
            case "abs":
                return Math.abs(u);
            case "sgn":
                return Math.signum(u);
            case "floor":
                return (float) Math.floor(u);
            case "ceil":
                return (float) Math.ceil(u);
            default:
                return (float) Math.rint(u);
        }
    }

    private boolean rowWord(String word, Object[] z) {
        switch (word) {
            case "ints": case "reals": case "flags": case "smalls": case "signs": case "crew": {
                int n = anInt(z[0]);
                int k = word.equals("crew") ? anInt(z[1]) : 0;
                if (n < 0 || n > 12) {
                    throw fault(3, 0);
                }
                if (k < 0 || k > 6) {
                    throw fault(4, 0);
                }
                pay(n);
                push(new Row(3 + Arrays.asList("ints", "reals", "flags", "smalls", "signs", "crew").indexOf(word), k, n));
                return true;
            }
            case "len":
                push(a(Row.class, z[0]).places.length);
                return true;
            case "at":
                push(place(a(Row.class, z[0]), anInt(z[1])));
                return true;
            case "put": {
                Row r = a(Row.class, z[1]);
                int i = anInt(z[2]);
                if (r.sort == 8) {
                    if (z[0] != null && !(z[0] instanceof Actor)) {
                        throw fault(4, 0);
                    }
                } else if (r.sort == 4) {
                    aNumber(z[0]);
                } else {
                    anInt(z[0]);
                }
                setPlace(r, i, z[0]);
                return true;
            }
            case "twin": {
                Row r = a(Row.class, z[0]);
                pay(r.places.length);
                Row t = new Row(r.sort, r.kind, r.places.length);
                System.arraycopy(r.places, 0, t.places, 0, r.places.length);
                push(t);
                return true;
            }
            case "copy":
                copy(z[0], anInt(z[1]), z[2], anInt(z[3]), anInt(z[4]));
                return true;
            default:
                return false;
        }
    }

    private Object place(Row r, int i) {
        if (i < 0 || i >= r.places.length) {
            throw fault(2, 0);
        }
        return r.places[i];
    }

    private void setPlace(Row r, int i, Object z) {
        place(r, i);
        if (r.sort == 8 && z != null && !((Actor) z).is(r.kind)) {
            throw fault(5, 0);
        }
        Object stored = z;
        switch (r.sort) {
            case 4:
                stored = asReal(z);
                break;
            case 5:
                stored = (Integer) z != 0 ? 1 : 0;
                break;
            case 6:
                stored = (int) (short) (int) (Integer) z;
                break;
            case 7:
                stored = (int) (char) (int) (Integer) z;
                break;
            default:
                break;
        }
        r.places[i] = stored;
    }

    private void copy(Object from, int i, Object to, int j, int n) {
        if (n >= 1 && n <= 12) {
            pay(n);
        }
        if (from == null || to == null) {
            throw fault(1, 0);
        }
        if (!(from instanceof Row) || !(to instanceof Row) || ((Row) from).sort != ((Row) to).sort) {
            throw fault(5, 0);
        }
        Row a = (Row) from;
        Row b = (Row) to;
        if (n < 0 || i < 0 || j < 0 || (long) i + n > a.places.length || (long) j + n > b.places.length) {
            throw fault(2, 0);
        }
        Object[] were = a.places.clone();
        for (int k = 0; k < n; k++) {
            if (were[i + k] instanceof Actor && !((Actor) were[i + k]).is(b.kind)) {
                throw fault(5, 0);
            }
            b.places[j + k] = were[i + k];
        }
    }

    private boolean actorWord(String word, Object[] z) {
        switch (word) {
            case "me":
                push(me);
                return true;
            case "it":
                push(it);
                return true;
            case "new": {
                int k = anInt(z[0]);
                if (k < 0 || k > 6) {
                    throw fault(4, 0);
                }
                if (staged.size() == 16 || made.size() == 32) {
                    push(null);
                    return true;
                }
                Actor a = new Actor(made.size(), k);
                made.add(a);
                staged.add(a);
                push(a);
                return true;
            }
            case "kind":
                push(a(Actor.class, z[0]).kind);
                return true;
            case "is":
            case "as": {
                int k = anInt(z[1]);
                if (k < 0 || k > 6) {
                    throw fault(4, 0);
                }
                boolean such = z[0] instanceof Actor && ((Actor) z[0]).is(k);
                if (word.equals("as") && z[0] != null && !such) {
                    throw fault(4, 0);
                }
                push(word.equals("is") ? (Object) (such ? 1 : 0) : z[0]);
                return true;
            }
            case "on":
                push(staged.contains(a(Actor.class, z[0])) ? 1 : 0);
                return true;
            case "gone":
                a(Actor.class, z[0]).gone = true;
                return true;
            case "nth": {
                int i = anInt(z[0]);
                if (i < 0 || i >= staged.size()) {
                    throw fault(2, 0);
                }
                push(staged.get(i));
                return true;
            }
            case "x":
                push(aBody(z[0]).x);
                return true;
            case "y":
                push(aBody(z[0]).y);
                return true;
            case "vx":
                push(aBody(z[0]).vx);
                return true;
            case "vy":
                push(aBody(z[0]).vy);
                return true;
            case "x!": case "y!": case "vx!": case "vy!": {
                Actor b = aBody(z[1]);
                float u = asReal(aNumber(z[0]));
                b.x = word.equals("x!") ? u : b.x;
                b.y = word.equals("y!") ? u : b.y;
                b.vx = word.equals("vx!") ? u : b.vx;
                b.vy = word.equals("vy!") ? u : b.vy;
                return true;
            }
            default:
                return false;
        }
    }

    private static final List<String> PARTS = Arrays.asList("mind", "pal", "marks", "name", "wear", "way");
    private static final List<String> PLACES = Arrays.asList("-", "--", "mark", "letter", "worn", "step");
    private static final int[] SORTS = {0, 0, 5, 7, 6, 4};

    private boolean partWord(String word, Object[] z) {
        boolean sets = word.endsWith("!");
        String bare = sets ? word.substring(0, word.length() - 1) : word;
        int part = PARTS.indexOf(bare);
        if (part >= 0 && !sets) {
            push(a(Actor.class, z[0]).parts[part]);
            return true;
        }
        if (part >= 0) {
            Actor who = a(Actor.class, z[1]);
            if (part > 1 && z[0] != null && !(z[0] instanceof Row && ((Row) z[0]).sort == SORTS[part])) {
                throw fault(4, 0);
            }
            who.parts[part] = z[0];
            return true;
        }
        part = PLACES.indexOf(bare);
        if (part < 0) {
            return false;
        }
        Actor who = a(Actor.class, z[sets ? 1 : 0]);
        int i = anInt(z[sets ? 2 : 1]);
        if (sets && part == 5) {
            aNumber(z[0]);
        } else if (sets) {
            anInt(z[0]);
        }
        if (who.parts[part] == null) {
            throw fault(1, 0);
        }
        Row r = (Row) who.parts[part];
        if (sets) {
            setPlace(r, i, z[0]);
        } else {
            push(place(r, i));
        }
        return true;
    }

    static int sortOf(Object z) {
        return z == null ? 0 : z instanceof Integer ? 1 : z instanceof Float ? 2 : z instanceof Row ? ((Row) z).sort
                : z instanceof Actor ? 9 : 10;
    }

    static int numberOf(Object z) {
        return z == null ? 0 : z instanceof Integer ? (Integer) z : z instanceof Float
                ? Float.floatToIntBits((Float) z) : z instanceof Row ? ((Row) z).places.length
                : z instanceof Actor ? ((Actor) z).number : ((Fault) z).code;
    }

    private boolean worldWord(String word, Object[] z) {
        switch (word) {
            case "say":
                tell(sortOf(z[0]), numberOf(z[0]));
                return true;
            case "input": {
                int p = anInt(z[0]);
                if (p < 0 || p >= players) {
                    throw fault(2, 0);
                }
                push(me == null ? 0 : taken(p, frame));
                return true;
            }
            case "frame":
                push(frame);
                return true;
            case "dice": {
                int n = anInt(z[0]);
                if (n < 1) {
                    throw fault(3, 0);
                }
                seed = seed * 1103515245 + 12345;
                push((seed >>> 16) % n);
                return true;
            }
            case "raise":
                if (z[0] instanceof Integer) {
                    throw fault(9, (Integer) z[0]);
                }
                if (z[0] instanceof Fault) {
                    pay(40);
                    throw new Thrown((Fault) z[0]);
                }
                throw fault(z[0] == null ? 1 : 4, 0);
            case "code":
                push(a(Fault.class, z[0]).code);
                return true;
            case "why":
                push(a(Fault.class, z[0]).why);
                return true;
            case "leave":
                throw new Leave();
            default:
                return false;
        }
    }

    // ---- what Play.scene tells of the class, told of the model

    private static String elements(Object z) {
        if (!(z instanceof Row)) {
            return "";
        }
        StringBuilder text = new StringBuilder();
        for (Object place : ((Row) z).places) {
            text.append(text.length() == 0 ? " = " : ",").append(place == null ? -1 : numberOf(place));
        }
        return text.toString();
    }

    String scene() {
        StringBuilder text = new StringBuilder();
        text.append(" 0=").append(frame).append(" 1=").append(book.size()).append(" 2=").append(staged.size());
        text.append(" 3=").append(made.size()).append(" 4=").append(output.size()).append(" 7=0 8=").append(seed);
        text.append(" 9=").append(fuel);
        for (Actor a : made) {
            float[] motion = {a.x, a.y, a.vx, a.vy};
            text.append("\nactor ").append(a.number).append(' ').append(a.kind).append(' ');
            text.append(staged.indexOf(a)).append(' ').append(a.hurts);
            for (float bits : motion) {
                text.append(' ').append(Float.floatToIntBits(bits));
            }
            for (Object part : a.parts) {
                int extra = part instanceof Fault ? ((Fault) part).why : sortOf(part) == 8 ? ((Row) part).kind : 0;
                text.append(" | ").append(sortOf(part)).append(' ').append(numberOf(part)).append(' ').append(extra);
                text.append(elements(part));
            }
        }
        int parts = made.size() * 6;
        for (int i = 0; i < parts; i++) {
            for (int j = i + 1; j < parts; j++) {
                Object one = made.get(i / 6).parts[i % 6];
                if (sortOf(one) > 2 && one == made.get(j / 6).parts[j % 6]) {
                    text.append("\nalike ").append(i).append(' ').append(j);
                }
            }
        }
        text.append('\n');
        for (int i = 0; i < output.size(); i++) {
            int[] entry = output.get(i);
            text.append(i == 0 ? "" : " ").append(entry[0]).append(':').append(entry[1]).append(':').append(entry[2]);
        }
        return text.toString();
    }

    int runs() {
        return framesRun;
    }

    int backs() {
        return timesBack;
    }
}
