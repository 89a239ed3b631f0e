import java.io.IOException;
import java.nio.file.Files;
import java.nio.file.Path;

/** Counts the answers that are not the ones that are due. */
final class Due {
    static final int LOW = -1000000000;
    static final int BEYOND = LOW - 1;
    static final int NONE = LOW - 2;
    static final int STATE = LOW - 3;
    static final int FULL = LOW - 4;
    static final int KIND = LOW - 5;

    private static int wrong = 0;
    private static String document = null;
    private static String sentence = "";

    private Due() {
    }

    /** What stands under a promise, or with 0 ahead of the first; blanks and line ends alike. */
    static String section(int promise) {
        if (document == null) {
            document = readDocument().replaceAll("\\s+", " ");
        }
        int from = promise == 0 ? 0 : document.indexOf("## Promise " + promise + ":");
        int to = document.indexOf(promise == 44 ? "## Not promised" : "## Promise " + (promise + 1) + ":");
        return from < 0 || to < from ? "" : document.substring(from, to);
    }

    private static String readDocument() {
        try {
            return Files.readString(Path.of("../shared/DOC.md"));
        } catch (IOException e) {
            return "";
        }
    }

    /** The sentence that the answers behind it are held to, as the document has it. */
    static void says(int promise, String words) {
        sentence = "[" + promise + ": " + words + "] ";
        if (!section(promise).contains(words)) {
            fault("the document doesn't say so");
        }
    }

    static void fault(String what) {
        wrong++;
        System.out.println(sentence + what);
    }

    static void due(String call, long got, long want) {
        if (got != want) {
            fault(call + " answered " + got + ", due is " + want);
        }
    }

    static void end() {
        if (wrong > 0) {
            System.out.println(wrong + " answers are not as due");
            System.exit(1);
        }
    }

    /** Lets the word's bytes come to THE TAPE, as many calls as it takes. */
    static void feed(FoxRounds x, String text) {
        for (int i = 0; i < text.length(); i++) {
            x.feed(text.charAt(i), 1);
        }
    }

    /** Feeds and reads a text. */
    static int text(FoxRounds x, int use, String text) {
        feed(x, text);
        return x.text(use);
    }
}
