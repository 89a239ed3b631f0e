import java.io.IOException;
import java.nio.file.Files;
import java.nio.file.Path;
import java.util.regex.Matcher;
import java.util.regex.Pattern;

/** Makes the calls that README.md shows, one object for all; run from the project's folder. */
public final class ReadmeTest {
    private static final Pattern SHOWN = Pattern.compile("^x\\.(\\w+)\\(([^)]*)\\);\\s+// (-?\\d+)(: .*)?$", Pattern.MULTILINE);

    public static void main(String[] args) throws IOException {
        String readme = Files.readString(Path.of("README.md"));
        int from = readme.indexOf("```java\n");
        String block = readme.substring(from, readme.indexOf("```\n", from + 8));
        FoxRounds x = new FoxRounds();
        Matcher m = SHOWN.matcher(block);
        int calls = 0;
        while (m.find()) {
            calls++;
            String call = (m.group(1) + " " + m.group(2).replace(",", "").replace("L", "")).trim();
            Due.due(m.group(1) + "(" + m.group(2) + ")", Call.on(x, call), Long.parseLong(m.group(3)));
        }
        if (calls != block.lines().filter(line -> line.startsWith("x.")).count() || calls < 20) {
            Due.fault("README.md shows calls without their answers");
        }
        if (!readme.contains("`../shared/DOC.md`") || !readme.contains(".ci/run")) {
            Due.fault("README.md doesn't say what is promised, or how tests are run");
        }
        Due.end();
    }
}
