import java.io.IOException;
import java.nio.file.Files;
import java.nio.file.Path;

/** Tests of sentences: each names its promise and tells the document's own words, which must stand there. */
abstract class Edges extends Bench {
    private static final Path DOCUMENT = Path.of("../shared/DOC.md");
    private static final int PROMISES = 38;
    private static final String DOC = read();
    private static final boolean[] TOLD = new boolean[DOC.length()];
    static int sentences;

    private static String read() {
        try {
            String text = Files.readString(DOCUMENT);
            return text.replace("```text", "").replace("```", "").replaceAll("\\s+", " ");
        } catch (IOException e) {
            System.out.println("the document is not at " + DOCUMENT);
            return "";
        }
    }

    private static int heading(int number) {
        int at = DOC.indexOf("## Promise " + number + ":");
        return at >= 0 ? at : DOC.indexOf("## Not promised");
    }

    /** The tests from here on are of this sentence, of the promise itself or of the terms that it uses. */
    static void says(int number, String words) {
        promise = number;
        sentence = " \"" + words + "\"";
        sentences++;
        if (DOC.isEmpty()) {
            return;
        }
        int at = DOC.indexOf(words, heading(number));
        if (at < 0 || at > heading(number + 1)) {
            at = DOC.indexOf(words);
        }
        if (at < 0) {
            wrong++;
            System.out.println("promise " + number + ": the document does not say" + sentence);
            return;
        }
        for (int i = at; i < at + words.length(); i++) {
            TOLD[i] = true;
        }
    }

    /** Without the document at hand only the answers can be asked for. Every word under "Terms" and behind each promise's call must be in a sentence that some test has told. */
    static void allTold() {
        if (DOC.isEmpty()) {
            return;
        }
        missing(DOC.indexOf(" I. THE TOWN is") + 3, DOC.indexOf("The constants:"));
        for (int number = 1; number <= PROMISES; number++) {
            int call = DOC.indexOf("`: ", heading(number));
            missing(call + 2, heading(number + 1));
        }
    }

    private static void missing(int from, int to) {
        String rest = "";
        for (int i = from; i < to; i++) {
            rest += TOLD[i] ? '\n' : DOC.charAt(i);
        }
        for (String part : rest.split("\n+")) {
            if (part.matches(".*[a-zA-Z0-9].*") && !part.matches("( II\\. | III\\. )")) {
                wrong++;
                System.out.println("no test tells: " + part);
            }
        }
    }
}
