/** Part III: what goes wrong of any word, in its order: EMPTY, DEEP, then what it takes, each looked at. */
public final class EdgesOfLooksTest {
    private static final String WORN = " new 3 flags over marks! 3 signs over name! 3 smalls over wear! 3 reals over way!";
    private static final String FAULT = "try 5 raise catch end";

    /** One value of each sort, with the letter of what it is: none, int, real, row, actor, body, fault. */
    private static final String[] VALUES = {"none", "1", "1.0", "3 ints", "3 reals", "3 flags", "3 smalls", "3 signs",
        "3 0 crew", "1" + WORN, "2" + WORN, FAULT};
    private static final String SORTS = "nvwrrrrrrabf";

    private static final String ACTOR = VALUES[9];
    private static final String BODY = VALUES[10];

    /**
     * Words | how many values they give | what they want, the topmost last (* where it is looked at by rules of
     * its own) | in which order those are looked at | values with which all is right.
     */
    private static final String[] TABLE = {
        "none me it frame|1|||",
        "dup|2|z||1",
        "drop say|0|z||1",
        "swap|2|zz||1;2",
        "over|3|zz||1;2",
        "same|1|zz||1;2",
        "+ - * / % min max like < <= =|1|uu|01|6;3",
        "neg abs floor ceil rint sgn root int real bits|1|u|0|6",
        "unbits|1|i|0|6",
        "and or xor shl shr|1|ii|01|6;3",
        "ints reals flags smalls signs|1|i|0|3",
        "crew|1|ii|01|3;2",
        "len twin|1|r|0|3 ints",
        "at|1|ri|01|3 ints;1",
        "put|0|*ri|12|1;3 ints;1",
        "copy|0|*i*ii|134|3 ints;0;3 ints;0;1",
        "new|1|i|0|1",
        "kind on|1|a|0|" + ACTOR,
        "gone|0|a|0|" + ACTOR,
        "is|1|zi|1|1;1",
        "as|1|*i|1|none;1",
        "nth|1|i|0|0",
        "x y vx vy|1|b|0|" + BODY,
        "x! y! vx! vy!|0|ub|10|1;" + BODY,
        "mind pal marks name wear way|1|a|0|" + ACTOR,
        "mind! pal!|0|za|1|1;" + ACTOR,
        "marks! name! wear! way!|0|*a|1|none;" + ACTOR,
        "mark letter worn step|1|ai|01|" + ACTOR + ";1",
        "mark! letter! worn!|0|iai|120|1;" + ACTOR + ";1",
        "step!|0|uai|120|1;" + ACTOR + ";1",
        "input|1|i|0|1",
        "dice|1|i|0|6",
        "code why|1|f|0|" + FAULT,
        "raise|0|*||1",
    };

    private static boolean fits(char want, char sort) {
        switch (want) {
            case 'i':
                return sort == 'v';
            case 'u':
                return sort == 'v' || sort == 'w';
            case 'r':
                return sort == 'r';
            case 'a':
                return sort == 'a' || sort == 'b';
            case 'b':
                return sort == 'b';
            case 'f':
                return sort == 'f';
            default:
                return true;
        }
    }

    /** The fault of a word that finds these values: 0 if it has none. */
    private static int codeWith(String[] values, String word) {
        Game stage = Play.on(2, ": start 0 new drop 0 new drop try " + String.join(" ", values) + " " + word
                + " 0 catch code end say ;");
        int last = stage.count(4) - 1;
        return stage.output(last, 1) == 11 ? 11 : stage.output(last, 2);
    }

    private static String[] with(String[] values, int at, String value) {
        String[] other = values.clone();
        other[at] = value;
        return other;
    }

    private static void looksAtEach(String word, String wants, String order, String[] right) {
        Edge.sentence("each looked at by itself: 1 NOTHING, where it is NONE; 4 KIND, where it is not what is wanted");
        Edge.check(word + " with all right", codeWith(right, word), word.equals("raise") ? Edge.RAISED : 0);
        for (int at = 0; at < wants.length(); at++) {
            for (int v = 0; v < VALUES.length && wants.charAt(at) != '*'; v++) {
                boolean fits = fits(wants.charAt(at), SORTS.charAt(v));
                // Into a crew an INT can't be put: a look at z, not at the row.
                boolean other = word.equals("put") && VALUES[v].endsWith("crew");
                int want = fits && !other ? 0 : SORTS.charAt(v) == 'n' ? Edge.NOTHING : Edge.KIND;
                Edge.check(word + " with " + VALUES[v] + " at " + at, codeWith(with(right, at, VALUES[v]), word), want);
            }
        }
        Edge.sentence("in order as it is told");
        for (int i = 0; i < order.length(); i++) {
            for (int j = i + 1; j < order.length(); j++) {
                int first = order.charAt(i) - '0';
                int second = order.charAt(j) - '0';
                String[] nothing = with(with(right, first, "none"), second, FAULT);
                Edge.check(word + ": NOTHING first", codeWith(nothing, word), Edge.NOTHING);
                String[] kind = with(with(right, first, FAULT), second, "none");
                Edge.check(word + ": KIND first", codeWith(kind, word), Edge.KIND);
            }
        }
    }

    private static void counts(String word, int takes, int gives) {
        Edge.sentence("7 EMPTY: there are fewer values");
        for (int n = 0; n < takes; n++) {
            Edge.check(word + " of " + n, codeWith(new String[] {Edge.repeat("none ", n)}, word), Edge.EMPTY);
        }
        int enough = codeWith(new String[] {Edge.repeat("none ", takes)}, word);
        Edge.check(word + " of " + takes, enough == Edge.EMPTY ? 1 : 0, 0);

        Edge.sentence("8 DEEP: there would be more than 32 behind it, and more than ahead of it");
        for (int n = 30; n <= 33; n++) {
            String pile = Edge.repeat("none ", Math.min(n, 32)) + (n == 33 ? "try 0 catch swap " : "");
            boolean deep = Edge.codeOf(pile + word + (n == 33 ? " end" : "")) == Edge.DEEP;
            boolean due = n - takes + gives > 32 && gives > takes;
            Edge.check(word + " on a pile of " + n, deep ? 1 : 0, due ? 1 : 0);
        }
    }

    private static void numbersAreWords() {
        Edge.sentence("8 DEEP: also of a number");
        Edge.works(Edge.repeat("none ", 31) + "1");
        Edge.works(Edge.repeat("none ", 31) + "1.5");
        Edge.faults(Edge.repeat("none ", 32) + "1", Edge.DEEP);
        Edge.faults(Edge.repeat("none ", 32) + "1.5", Edge.DEEP);
        Edge.sentence("if i, do i: 7, 1, 4");
        Edge.faults("if end", Edge.EMPTY);
        Edge.faults("while do end", Edge.EMPTY);
        for (int v = 0; v < VALUES.length; v++) {
            int want = SORTS.charAt(v) == 'v' ? 0 : SORTS.charAt(v) == 'n' ? Edge.NOTHING : Edge.KIND;
            Edge.faults(VALUES[v] + " if end", want);
            Edge.faults(VALUES[v] + " while do 0 end", want);
        }
        Edge.works(Edge.repeat("none ", 31) + "1 if end");
        Edge.works(Edge.repeat("none ", 32) + "try always end");
        Edge.sentence("8 DEEP: not of what puts nothing, however many there are");
        String[] full = {Edge.repeat("none ", 32), Edge.repeat("none ", 32) + "try 1 catch "};
        for (int i = 0; i < full.length; i++) {
            String ends = i == 0 ? "" : " end";
            for (String word : new String[] {"d", "leave", "try always end", "try d always leave end", "d d drop d"}) {
                Game stage = Play.on(1, ": start " + full[i] + word + ends + " ; : d ;");
                Edge.check(word + " on a full pile", Play.said(stage), "");
            }
        }
    }

    private static void ownRules() {
        Edge.sentence("put: of ints, flags, smalls, signs an INT; of reals a NUMBER; of a CREW an ACTOR, or NONE");
        String[] rows = {"3 ints", "3 reals", "3 flags", "3 smalls", "3 signs", "3 0 crew"};
        String[] wants = {"v", "vw", "v", "v", "v", "nab"};
        for (int r = 0; r < rows.length; r++) {
            for (int v = 0; v < VALUES.length; v++) {
                boolean fits = wants[r].indexOf(SORTS.charAt(v)) >= 0;
                int want = fits ? 0 : SORTS.charAt(v) == 'n' ? Edge.NOTHING : Edge.KIND;
                Edge.check(VALUES[v] + " put into " + rows[r], codeWith(new String[] {VALUES[v], rows[r], "1"}, "put"), want);
                // z is looked at ahead of PLACE.
                int beyond = fits ? Edge.PLACE : want;
                Edge.check(VALUES[v] + " beyond " + rows[r], codeWith(new String[] {VALUES[v], rows[r], "3"}, "put"), beyond);
            }
            Edge.check("i ahead of z", codeWith(new String[] {FAULT, rows[r], "none"}, "put"), Edge.NOTHING);
            Edge.check("i ahead of z", codeWith(new String[] {"none", rows[r], "1.0"}, "put"), Edge.KIND);
        }
        Edge.sentence("as: z, if it is NONE or such an ACTOR; else KIND");
        for (int v = 0; v < VALUES.length; v++) {
            boolean fits = "nab".indexOf(SORTS.charAt(v)) >= 0;
            Edge.check("as with " + VALUES[v], codeWith(new String[] {VALUES[v], "0"}, "as"), fits ? 0 : Edge.KIND);
        }
        Edge.sentence("marks! name! wear! way!: z is a ROW of that sort, or NONE, else KIND");
        String[] sets = {"marks!", "name!", "wear!", "way!"};
        String[] own = {"3 flags", "3 signs", "3 smalls", "3 reals"};
        for (int s = 0; s < sets.length; s++) {
            for (int v = 0; v < VALUES.length; v++) {
                boolean fits = VALUES[v].equals(own[s]) || v == 0;
                Edge.check(sets[s] + " with " + VALUES[v], codeWith(new String[] {VALUES[v], ACTOR}, sets[s]),
                        fits ? 0 : Edge.KIND);
            }
            Edge.check("a ahead of z", codeWith(new String[] {"1", "none"}, sets[s]), Edge.NOTHING);
        }
        Edge.sentence("raise: of an INT .., of a FAULT that very one ..; else NOTHING, KIND");
        for (int v = 0; v < VALUES.length; v++) {
            char sort = SORTS.charAt(v);
            int want = sort == 'v' || sort == 'f' ? Edge.RAISED : sort == 'n' ? Edge.NOTHING : Edge.KIND;
            Edge.check("raise of " + VALUES[v], codeWith(new String[] {VALUES[v]}, "raise"), want);
        }
        Edge.sentence("copy: NOTHING if z, or z', is NONE; MIX if one is no ROW, or they are unlike");
        for (int v = 0; v < VALUES.length; v++) {
            for (int w = 0; w < VALUES.length; w++) {
                boolean rows2 = SORTS.charAt(v) == 'r' && v == w;
                int want = v == 0 || w == 0 ? Edge.NOTHING : rows2 ? 0 : Edge.MIX;
                String[] values = {VALUES[v], "0", VALUES[w], "0", "1"};
                Edge.check("copy " + VALUES[v] + " to " + VALUES[w], codeWith(values, "copy"), want);
            }
        }
    }

    public static void main(String[] args) {
        int words = 0;
        for (String line : TABLE) {
            String[] parts = line.split("\\|", -1);
            String[] right = parts[4].isEmpty() ? new String[0] : parts[4].split(";");
            for (String word : parts[0].split(" ")) {
                looksAtEach(word, parts[2], parts[3], right);
                counts(word, parts[2].length(), Integer.parseInt(parts[1]));
                words++;
            }
        }
        Edge.sentence("every word of Part III but those of its flow stands in the table");
        Edge.check("words", words, Model.WORDS.size() - 9);
        numbersAreWords();
        ownRules();
        Play.finish();
    }
}
