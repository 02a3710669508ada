import java.io.IOException;
import java.nio.file.Files;
import java.nio.file.Path;
import java.util.ArrayList;
import java.util.LinkedHashMap;
import java.util.List;
import java.util.Map;

/**
 * What the boundary tests share: each test bears a piece of a sentence of ../shared/DOC.md as its
 * name, and at the end every sentence of the sections that a file goes through has a test.
 */
abstract class Boundaries {
    private static final Path DOCUMENT = Path.of("../shared/DOC.md");
    private static final Map<String, String> PARTS_OF_TERMS = Map.of(
        "======== QUESTIONS", "Terms, questions", "======== AUCTIONS", "Terms, auctions",
        "In tick()", "Terms, tick", "REFUSALS", "Terms, refusals", "Ahead of", "Terms, of the interface");

    private final Map<String, List<String>> sentences = new LinkedHashMap<>();
    private final Map<String, List<String>> told = new LinkedHashMap<>();
    private String section = "";
    private String test = "";
    private int tests = 0;
    private int wrong = 0;

    Boundaries() throws IOException {
        // Without the document the tests still run; only their names are not looked up.
        if (Files.isReadable(DOCUMENT)) {
            read(Files.readAllLines(DOCUMENT));
        }
    }

    private void read(List<String> lines) {
        Map<String, StringBuilder> texts = new LinkedHashMap<>();
        String name = "";
        for (String line : lines) {
            if (line.startsWith("## ")) {
                String title = line.substring(3);
                name = title.startsWith("Promise ") ? title.substring(0, title.indexOf(':')) : title;
                name = name.equals("Terms") ? "Terms, accounts" : name;
                continue;
            }
            for (Map.Entry<String, String> part : PARTS_OF_TERMS.entrySet()) {
                if (name.startsWith("Terms") && line.startsWith(part.getKey())) {
                    name = part.getValue();
                }
            }
            if (!line.startsWith("```")) {
                texts.computeIfAbsent(name, n -> new StringBuilder()).append(line).append(' ');
            }
        }
        texts.forEach((n, text) -> sentences.put(n, sentencesOf(text.toString())));
    }

    private static List<String> sentencesOf(String text) {
        List<String> found = new ArrayList<>();
        String line = text.replaceAll("\\s+", " ").trim().replaceFirst("^`[^`]*`: ", "").replaceFirst("^=+ ", "");
        // ".." stands between the ends of a range and does not end a sentence.
        for (String sentence : line.split("(?<![.])[.]( |$)")) {
            found.add(sentence.trim());
        }
        return found;
    }

    /** The tests that follow are for sentences of this section. */
    final void section(String name) {
        section = name;
        told.put(name, new ArrayList<>());
        if (!sentences.isEmpty() && !sentences.containsKey(name)) {
            fail("the document has no section " + name);
        }
    }

    /** A test for a piece of a sentence, with the edge of it that the test looks at. */
    final void says(String piece, String edge, Runnable body) {
        test = section + ": \"" + piece + "\": " + edge;
        tests++;
        told.get(section).add(piece);
        boolean stands = sentences.getOrDefault(section, List.of()).stream().anyMatch(s -> s.contains(piece));
        if (!sentences.isEmpty() && !stands) {
            fail("the document has no such words there");
        }
        body.run();
    }

    final void due(String call, long got, long want) {
        if (got != want) {
            fail(call + " answered " + got + ", due is " + want);
        }
    }

    final void dueHolds(VoteAuctions x, int account, long funds, long aside) {
        due("holds(" + account + ", 1)", x.holds(account, 1), funds);
        due("holds(" + account + ", 2)", x.holds(account, 2), aside);
    }

    final void fail(String what) {
        wrong++;
        System.out.println(test + ": " + what);
    }

    /** An object with accounts, of which each has the next two numbers as its weight and funds. */
    static VoteAuctions withAccounts(int... weightsAndFunds) {
        VoteAuctions x = new VoteAuctions();
        for (int i = 0; i + 1 < weightsAndFunds.length; i += 2) {
            x.account(weightsAndFunds[i], weightsAndFunds[i + 1]);
        }
        return x;
    }

    /** Says how it went, and ends with 1 if an answer was wrong or a sentence has no test. */
    final void end() {
        test = "names";
        told.forEach((name, pieces) -> {
            for (String sentence : sentences.getOrDefault(name, List.of())) {
                if (pieces.stream().noneMatch(sentence::contains)) {
                    fail(name + " has no test for \"" + sentence + "\"");
                }
            }
        });
        System.out.println(tests + " boundary tests, " + (wrong == 0 ? "all hold" : wrong + " answers are not as due"));
        if (wrong != 0) {
            System.exit(1);
        }
    }
}
