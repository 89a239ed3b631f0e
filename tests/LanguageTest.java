import java.io.IOException;
import java.nio.file.Files;
import java.nio.file.Path;
import java.util.ArrayList;
import java.util.List;
import java.util.regex.Matcher;
import java.util.regex.Pattern;

/** What of LANGUAGE.md a look at the words can tell; run from the project's folder. */
public final class LanguageTest {
    private static final String[] RULED_OUT = {"throw", "throws", "try", "catch", "synchronized", "assert", "protected",
        "import", "package", "volatile", "var", "native", "transient", "Object", "System\\.(?!arraycopy)", "->", "::",
        "\\.hashCode", "\\.toString", "\\w+Exact\\b", "Random", "Thread", "new \\w+\\([^)]*\\)\\s*\\{"};

    private static int wrong = 0;

    private static void fault(String what) {
        wrong++;
        System.out.println(what);
    }

    /** The text without comments and without what stands in quotes. */
    private static String bare(String text) {
        return text.replaceAll("(?s)/\\*.*?\\*/", "").replaceAll("//[^\n]*", "")
                .replaceAll("\"[^\"\n]*\"", "\"\"").replaceAll("'[^'\n]+'", "' '");
    }

    private static void words(String text) {
        for (String word : RULED_OUT) {
            String bounded = Character.isLetter(word.charAt(0)) && word.matches("\\w+") ? "\\b" + word + "\\b" : word;
            if (Pattern.compile(bounded).matcher(text).find()) {
                fault("ruled out: " + word);
            }
        }
        for (char sign : text.toCharArray()) {
            if (sign > 127) {
                fault("a sign above 127: " + sign);
            }
        }
    }

    private static void classes(String text) {
        Matcher m = Pattern.compile("\\b(class|interface|record|enum) (\\w+)").matcher(text);
        int classes = 0;
        while (m.find()) {
            classes++;
        }
        if (classes > 12) {
            fault(classes + " classes");
        }
        if (Pattern.compile("^    (?!private|public|\\}|//)\\w", Pattern.MULTILINE).matcher(text).find()) {
            fault("a member of the outer class is neither public nor private");
        }
    }

    /** Lines from a method's head, four or eight blanks in, to its closing brace. */
    private static void methods(String text) {
        Pattern head = Pattern.compile("^( {4}| {8})(?! )[^\n;=]*?(\\w+)\\(([^)]*)\\) \\{$", Pattern.MULTILINE);
        List<String> outer = new ArrayList<>();
        List<String> hidden = new ArrayList<>();
        Matcher m = head.matcher(text);
        while (m.find()) {
            String line = m.group();
            int end = text.indexOf("\n" + m.group(1) + "}", m.end());
            int lines = text.substring(m.start(), Math.max(end, m.start())).split("\n").length + 1;
            if (line.matches(".*\\b(if|for|while|switch)\\b.*")) {
                continue;
            }
            if (end < 0 || lines > 60) {
                fault(m.group(2) + " has " + lines + " lines");
            }
            if (m.group(3).split(",").length > 7) {
                fault(m.group(2) + " has too many parameters");
            }
            (line.contains("public") ? outer : hidden).add(m.group(2));
        }
        for (String name : hidden) {
            if (outer.contains(name) && !name.equals("FoxRounds")) {
                fault("a hidden method bears a public one's name: " + name);
            }
        }
        if (outer.size() != 44) {
            fault("the face has " + outer.size() + " constructors and methods");
        }
    }

    private static void sections(String text) {
        String[] heads = {"ways, things", "texts, nights", "ahead", "the door, odds, the village, signs",
            "draws, voices, sheets, images, what is told"};
        String[] first = {"set", "feed", "then", "dusk", "seed"};
        for (int i = 0; i < heads.length; i++) {
            if (!text.contains("    // ---- " + heads[i] + "\n\n    public int " + first[i] + "(")) {
                fault("not ahead of " + first[i] + ": ---- " + heads[i]);
            }
        }
    }

    public static void main(String[] args) throws IOException {
        String text = Files.readString(Path.of("src/main/java/FoxRounds.java"));
        words(bare(text));
        classes(bare(text));
        methods(bare(text));
        sections(text);
        if (wrong > 0) {
            System.exit(1);
        }
    }
}
