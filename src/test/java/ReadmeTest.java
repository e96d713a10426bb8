import java.io.IOException;
import java.nio.file.Files;
import java.nio.file.Path;
import java.util.regex.Matcher;
import java.util.regex.Pattern;

/** The example in README.md answers what stands behind each of its lines; runs where README.md is. */
public final class ReadmeTest {
    private static final Pattern LINE = Pattern.compile(
            "forge\\.(\\w+)\\((0x[0-9A-F]+L|[0-9]*)\\); *// (?:(-?[0-9]+)|throws (\\w+)): .*");

    private ReadmeTest() {
    }

    public static void main(String[] args) throws IOException {
        Check.about("README.md", "Use");
        EmbedForge forge = new EmbedForge();
        int lines = 0;
        for (String line : Files.readAllLines(Path.of("README.md"))) {
            if (line.startsWith("forge.")) {
                lines++;
                ask(forge, line);
            }
        }
        Check.same("lines of the example", "some", lines > 0 ? "some" : "none");
        Check.finish();
    }

    private static void ask(EmbedForge forge, String line) {
        Matcher found = LINE.matcher(line);
        if (!found.matches()) {
            Check.same(line, "a call and its answer", "something else");
            return;
        }
        String due = found.group(3) != null ? found.group(3) : "throws." + found.group(4);
        Check.same(line, due, Check.answer(() -> call(forge, found.group(1), found.group(2))));
    }

    private static int call(EmbedForge forge, String name, String argument) {
        switch (name) {
            case "text":
                return forge.text(Long.decode(argument.replace("L", "")));
            case "compile":
                return forge.compile();
            case "where":
                return forge.where();
            case "feed":
                return forge.feed(Integer.parseInt(argument));
            case "end":
                return forge.end();
            case "jump":
                return forge.jump(Integer.parseInt(argument));
            case "count":
                return forge.count(Integer.parseInt(argument));
            default:
                throw new AssertionError(name);
        }
    }
}
