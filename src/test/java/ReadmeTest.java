import java.io.IOException;
import java.nio.file.Files;
import java.nio.file.Path;
import java.util.regex.Matcher;
import java.util.regex.Pattern;

/** README.md's example: every call answers what stands behind it. */
public final class ReadmeTest {
    private static final Pattern CALL = Pattern.compile("x\\.(\\w+\\(.*\\)); +// (-?\\d+).*");
    private static final Pattern PUT = Pattern.compile("put\\(x, \"(.*)\"\\);");

    public static void main(String[] args) throws IOException {
        Script script = new Script("ReadmeTest");
        script.run("# README.md");
        int asked = 0;
        for (String line : Files.readAllLines(Path.of("README.md"))) {
            Matcher call = CALL.matcher(line);
            Matcher put = PUT.matcher(line);
            if (call.matches()) {
                script.due(call.group(1), Long.parseLong(call.group(2)));
                asked++;
            } else if (put.matches()) {
                script.put(put.group(1));
            } else if (line.startsWith("x.")) {
                throw new IllegalStateException("no answer stands behind " + line);
            }
        }
        if (asked == 0) {
            throw new IllegalStateException("README.md has no example");
        }
        script.close();
    }
}
