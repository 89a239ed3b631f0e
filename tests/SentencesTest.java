import java.io.IOException;
import java.nio.file.Files;
import java.nio.file.Path;
import java.util.ArrayList;
import java.util.List;
import java.util.regex.Matcher;
import java.util.regex.Pattern;
import java.util.stream.Stream;

/** Whether tests say each sentence of the document that refuses a call, or tells a bound; run from the project's folder. */
public final class SentencesTest {
    private static final Pattern SAID = Pattern.compile("says\\((\\d+), \"([^\"]*)\"\\)");
    private static final String[] ERRORS = {"BEYOND", "NONE", "STATE", "FULL", "KIND"};
    private static final String[] BOUNDS = {"at most", "at least", "held within", "held at", "at first", "that wrap",
        "go round", "beyond 999", "or less", "or more", "none if all", "by 0 are 0", "the first 40"};

    private static final List<List<String>> SAYINGS = new ArrayList<>();

    private static void gather(Path file) throws IOException {
        Matcher m = SAID.matcher(Files.readString(file));
        while (m.find()) {
            SAYINGS.get(Integer.parseInt(m.group(1))).add(m.group(2));
        }
    }

    /** Whether some test says the place of a promise's section from one letter up to another. */
    private static boolean isSaid(int promise, int from, int to) {
        String section = Due.section(promise);
        for (String words : SAYINGS.get(promise)) {
            for (int at = section.indexOf(words); at >= 0; at = section.indexOf(words, at + 1)) {
                if (at <= from && to <= at + words.length()) {
                    return true;
                }
            }
        }
        return false;
    }

    private static void look(int promise, String words) {
        String section = Due.section(promise);
        Matcher m = Pattern.compile("\\b" + words + "\\b").matcher(section);
        while (m.find()) {
            if (!isSaid(promise, m.start(), m.end())) {
                String around = section.substring(Math.max(0, m.start() - 40), Math.min(section.length(), m.end() + 20));
                Due.fault("no test says of promise " + promise + ": .. " + around + " ..");
            }
        }
    }

    public static void main(String[] args) throws IOException {
        for (int promise = 0; promise <= 44; promise++) {
            SAYINGS.add(new ArrayList<>());
        }
        try (Stream<Path> files = Files.list(Path.of("tests"))) {
            for (Path file : (Iterable<Path>) files.filter(f -> f.toString().endsWith("Test.java"))::iterator) {
                gather(file);
            }
        }
        for (String bound : BOUNDS) {
            look(0, bound);
        }
        for (int promise = 1; promise <= 44; promise++) {
            for (String error : ERRORS) {
                look(promise, error);
            }
            if (SAYINGS.get(promise).isEmpty()) {
                Due.fault("no test says anything of promise " + promise);
            }
        }
        Due.end();
    }
}
