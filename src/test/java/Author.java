import java.util.ArrayList;
import java.util.List;
import java.util.Random;

/** Writes books by chance, whose words mostly find the values that they want. */
final class Author {
    private static final String[] WORDS = {
        "none :o", "dup z:zz", "drop z:", "swap zz:zz", "over zz:zzz", "same zz:i",
        "+ nn:n", "- nn:n", "* nn:n", "/ nn:n", "% nn:n", "min nn:n", "max nn:n",
        "neg n:n", "abs n:n", "floor n:n", "ceil n:n", "rint n:n", "sgn n:n", "root n:r", "like nn:r", "int n:i",
        "real n:r", "bits n:i", "unbits i:r", "and ii:i", "or ii:i", "xor ii:i", "shl ii:i", "shr ii:i",
        "< nn:i", "<= nn:i", "= nn:i", "len w:i", "at wi:n", "put nwi:", "put awi:", "twin w:w", "copy wiwii:",
        "me :a", "it :a", "new i:a", "kind a:i", "is zi:i", "as ai:a", "on a:i", "gone a:", "nth i:a",
        "x a:r", "y a:r", "vx a:r", "vy a:r", "x! na:", "y! na:", "vx! na:", "vy! na:",
        "mind a:z", "pal a:z", "mind! za:", "pal! za:", "marks a:w", "name a:w", "wear a:w", "way a:w",
        "marks! wa:", "name! wa:", "wear! wa:", "way! wa:", "mark ai:i", "letter ai:i", "worn ai:i", "step ai:r",
        "mark! iai:", "letter! iai:", "worn! iai:", "step! nai:", "say z:", "say z:", "input i:i", "frame :i",
        "dice i:i", "raise i:", "raise f:", "code f:i", "why f:i", "leave :",
        "ints i:w", "reals i:w", "flags i:w", "smalls i:w", "signs i:w", "crew ii:w"};
    private static final String[] PHRASES = {
        "0 nth :a", "1 nth :a", "2 new :a", "3 new :a", "6 new :a", "me :a", "it :a", "3 flags me marks! :",
        "4 signs me name! :", "2 smalls me wear! :", "3 reals me way! :", "3 2 crew :w", "4 3 crew :w", "2 0 crew :w",
        "5 ints :w", "3 reals :w", "2 dice :i", "5 dice :i", "0 input :i", "1 input :i", "frame :i",
        "me dup mind swap pal! :", "1.5 me vx! :", "-2.25 me vy! :", "1 unbits :r", "0.0 0.0 / :r", "1.0 0.0 / :r",
        "-1 0 shl :i", "1 31 shl :i", "me x :r", "me mind :z", "0 nth me mind! :", "3 0 nth x! :", "0 nth gone :",
        "3 2 crew me mind! :", "2 3 crew me pal! :", "me mind 0 me pal 0 2 copy :", "me pal 0 me mind 1 2 copy :",
        "0 nth me mind 1 put :", "1 nth me pal 0 put :", "2 new me mind 0 put :", "me mind twin me pal! :",
        "me mind 0 at :a", "me mind len :i", "3 ints me mind! :", "me mind 0 me mind 1 2 copy :",
        "7 me mind 1 put :", "try 5 raise catch me mind! end :", "me mind raise :", "try me mind raise catch why say end :",
        "0 nth mind me mind! :", "1 nth mind me pal! :", "me mind 1 nth pal same say :", "70000 me 1 worn! :",
        "-1 me 2 letter! :", "2.75 me 1 step! :", "5 me 1 mark! :", "me 1 step say :", "me way me mind! :",
        "me marks 1 nth marks! :", "3 me marks 0 put :", "me 3 as x :r", "1 nth 4 is :i", "0 nth 2 as mind :z",
        "try 1 nth gone catch drop end :", "none me way! :", "0 nth x 1 nth x! :", "0 nth y 1 nth y! :"};

    private final Random chance;
    private final StringBuilder text = new StringBuilder();
    private final List<Character> pile = new ArrayList<>();
    private String[] names = {};
    private int words;

    Author(Random chance) {
        this.chance = chance;
    }

    private int upTo(int n) {
        return chance.nextInt(n);
    }

    private void write(String word) {
        text.append(upTo(12) == 0 ? '\n' : ' ').append(word);
        words += word.split(" ").length;
    }

    private static boolean fits(char has, char wants) {
        return wants == 'z' || has == 'z' || has == wants || (wants == 'n' && (has == 'i' || has == 'r'))
                || (has == 'n' && (wants == 'i' || wants == 'r'));
    }

    private boolean fits(String wants) {
        if (pile.size() < wants.length()) {
            return false;
        }
        for (int i = 0; i < wants.length(); i++) {
            if (!fits(pile.get(pile.size() - wants.length() + i), wants.charAt(i))) {
                return false;
            }
        }
        return true;
    }

    private void writeKnown(String line) {
        int at = line.lastIndexOf(' ');
        String wants = line.substring(at + 1, line.lastIndexOf(':'));
        String gives = line.substring(line.lastIndexOf(':') + 1);
        write(line.substring(0, at));
        for (int i = 0; i < wants.length() && !pile.isEmpty(); i++) {
            pile.remove(pile.size() - 1);
        }
        for (char c : gives.toCharArray()) {
            pile.add(c);
        }
    }

    private void writeWord() {
        for (int tries = 0; tries < 30; tries++) {
            String line = WORDS[upTo(WORDS.length)];
            boolean ends = line.startsWith("leave") || line.startsWith("raise");
            if ((fits(line.substring(line.indexOf(' ') + 1, line.indexOf(':'))) || upTo(300) == 0)
                    && (!ends || upTo(4) == 0)) {
                writeKnown(line);
                return;
            }
        }
        writeNumber();
    }

    private void writeNumber() {
        switch (upTo(8)) {
            case 0:
                write(Integer.toString(upTo(2000000) - 1000000));
                pile.add('i');
                break;
            case 1:
                write((upTo(2) == 0 ? "-" : "") + upTo(200) + "." + upTo(10000));
                pile.add('r');
                break;
            case 2:
                write((upTo(2) == 0 ? "-" : "") + "0." + upTo(4));
                pile.add('r');
                break;
            default:
                write(Integer.toString(upTo(9) - 1));
                pile.add('i');
                break;
        }
    }

    private void writeStructure(int depth) {
        int height = pile.size();
        switch (upTo(4)) {
            case 0:
                writeKnown(PHRASES[16 + upTo(5)]);
                write("if");
                pile.remove(pile.size() - 1);
                writeBody(1 + upTo(4), depth + 1);
                if (upTo(2) == 0) {
                    write("else");
                    writeBody(1 + upTo(4), depth + 1);
                }
                break;
            case 1:
                write(Integer.toString(1 + upTo(4)));
                write("while dup do");
                pile.add('i');
                writeBody(1 + upTo(3), depth + 1);
                write("1 -");
                break;
            default: {
                write("try");
                writeBody(1 + upTo(5), depth + 1);
                boolean caught = upTo(3) > 0;
                if (caught) {
                    write("catch");
                    pile.add('f');
                    writeBody(1 + upTo(4), depth + 1);
                }
                if (!caught || upTo(2) == 0) {
                    write("always");
                    writeBody(1 + upTo(3), depth + 1);
                }
                break;
            }
        }
        write("end");
        while (pile.size() > height + 1) {
            pile.remove(pile.size() - 1);
        }
    }

    /** Often within a try: else most events would end with their first fault. */
    private void writePhrase() {
        boolean guarded = upTo(3) > 0;
        if (guarded) {
            write("try");
        }
        writeKnown(PHRASES[upTo(PHRASES.length)]);
        if (guarded) {
            write(upTo(2) == 0 ? "catch code say end" : "catch drop always frame drop end");
        }
    }

    private void writeBody(int length, int depth) {
        for (int i = 0; i < length && words < 560; i++) {
            int what = upTo(20);
            if (what < 5) {
                writeNumber();
            } else if (what < 9) {
                writePhrase();
            } else if (what < 11 && depth < 5) {
                writeStructure(depth);
            } else if (what == 11 && upTo(2) == 0) {
                write(names[upTo(names.length)]);
            } else {
                writeWord();
            }
        }
    }

    private void writeDefinition(String name, String opening) {
        write(":");
        write(name);
        pile.clear();
        if (!opening.isEmpty()) {
            write(opening);
        }
        writeBody(3 + upTo(25), 0);
        write(";");
    }

    private String cast() {
        StringBuilder opening = new StringBuilder();
        int many = 1 + upTo(5);
        for (int i = 0; i < many; i++) {
            int kind = upTo(7);
            opening.append(kind).append(" new ");
            if (kind >= 2) {
                opening.append("dup ").append(upTo(4)).append(".5 swap x! dup ").append(90 + upTo(10)).append(" swap y! ");
                opening.append("dup ").append(upTo(20) - 10).append(" swap vx! ");
            }
            opening.append("dup 2 flags swap marks! 3 reals swap way!");
            opening.append(i + 1 < many ? " " : "");
        }
        return opening.toString();
    }

    private static final String[] OPENINGS = {
        "frame 0 = if 3 2 crew me mind! 3 ints me pal! 4 signs me name! 2 smalls me wear! end",
        "frame 1 = if 2 3 crew me pal! 4 4 crew me mind! 3 flags me marks! end",
        "me mind none same if 3 dice new me mind! end", ""};

    String book() {
        List<String> used = new ArrayList<>();
        String[] all = {"start", "t0", "t2", "t3", "t6", "h2", "h4", "d1", "d2"};
        for (String name : all) {
            if (upTo(5) > 0) {
                used.add(name);
            }
        }
        if (used.isEmpty()) {
            used.add("start");
        }
        names = used.toArray(new String[0]);
        for (String name : names) {
            writeDefinition(name, name.equals("start") ? cast() : OPENINGS[upTo(OPENINGS.length)]);
        }
        return text.toString();
    }
}
