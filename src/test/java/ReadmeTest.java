import java.io.IOException;
import java.nio.charset.StandardCharsets;
import java.nio.file.Files;
import java.nio.file.Path;
import java.util.ArrayList;
import java.util.List;

/** README.md tells the class as it stands: its examples do what it says, its calls and tests are those there are. */
public final class ReadmeTest {
    private static final String[] CALLS = {"feed(a, b, c, d, e)", "end(n)", "book()", "fault(what)", "advance(n)",
        "give(p, frame, bits)", "input(p, frame, known)", "count(what)", "actor(a, what)", "held(a, part, what)",
        "element(a, part, i)", "alike(a, part, b, other)", "output(i, what)"};

    private static String block(String text, String kind) {
        int from = text.indexOf("```" + kind + "\n") + kind.length() + 4;
        return text.substring(from, text.indexOf("```", from));
    }

    private static void tells(String text, String line) {
        Play.check("README.md tells " + line, text.contains(line) ? 1 : 0, 1);
    }

    private static void firstExample(String example) {
        Game stage = new Game(2);
        tells(example, "RewindStage stage = new RewindStage(2);");
        Play.check("feed", stage.feed(0x3a207374, 0x61727420, 0x37207361, 0x79203b00, 0), 20);
        tells(example, "stage.feed(0x3a207374, 0x61727420, 0x37207361, 0x79203b00, 0);");
        Play.check("end", stage.end(15), 15);
        tells(example, "stage.end(15);");
        Play.check("book", stage.book(), 1);
        tells(example, "stage.book();              // 1;");
        Play.check("output", stage.output(0, 2), 7);
        tells(example, "stage.output(0, 2);               // 7\n");
        Play.check("give", stage.give(0, 0, 3), 0);
        tells(example, "stage.give(0, 0, 3);");
        Play.check("advance", stage.advance(10), 10);
        tells(example, "stage.advance(10);                 // up to ten frames: 10\n");
        Play.check("give, late", stage.give(1, 2, 7), 8);
        tells(example, "stage.give(1, 2, 7);             // late: back to frame 2, and run again to where it was: 8\n");
        Play.check("actor", stage.actor(0, 3), RewindStage.NONE);
        tells(example, "stage.actor(0, 3);                   // the bits of actor 0's x (NONE: there is no actor)");
    }

    private static void bookExample(String book) {
        Game stage = Play.on(2, book);
        Play.check("definitions", stage.count(1), 3);
        Play.check("x", stage.actor(0, 3), Float.floatToIntBits(10.5f));
        Play.check("mind", stage.held(0, 0, 0) * 100 + stage.held(0, 0, 1), 303);
        stage.give(0, 0, 3);
        stage.advance(1);
        Play.check("x, moved", stage.actor(0, 3), Float.floatToIntBits(13.5f));
        Play.check("said", Play.said(stage), "0:1:2 0:1:0");
    }

    private static List<String> tests() throws IOException {
        List<String> names = new ArrayList<>();
        try (var files = Files.newDirectoryStream(Path.of("src/test/java"), "*Test.java")) {
            files.forEach(file -> names.add(file.getFileName().toString().replace(".java", "")));
        }
        return names;
    }

    /** A test is told by its name, or by the first letters that it shares with its like. */
    private static void namesTests(String text) throws IOException {
        for (String name : tests()) {
            boolean promise = name.matches("P[0-9][0-9].*");
            String told = name.startsWith("EdgesOf") ? "`EdgesOf..`" : promise ? "`P01..` to `P14..`" : "`" + name + "`";
            tells(text, told);
        }
    }

    public static void main(String[] args) throws IOException {
        String text = Files.readString(Path.of("README.md"), StandardCharsets.UTF_8);
        firstExample(block(text, "java"));
        bookExample(block(text, "text"));
        for (String call : CALLS) {
            tells(text, "| `" + call + "` |");
        }
        namesTests(text);
        Play.finish();
    }
}
