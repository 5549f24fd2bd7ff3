import java.io.IOException;
import java.nio.charset.StandardCharsets;
import java.nio.file.Files;
import java.nio.file.Path;
import java.util.regex.Matcher;
import java.util.regex.Pattern;

/** What README.md shows of the class is what the class does: each block of Java there, call by call. */
public final class ReadmeTest {
    private static final Check CHECK = new Check();
    private static final Pattern CALL = Pattern.compile("ship\\.(\\w+\\([^)]*\\)); +// (-?\\d+)(:.*)?");

    public static void main(String[] args) throws IOException {
        String text = Files.readString(Path.of("README.md"), StandardCharsets.UTF_8);
        Matcher blocks = Pattern.compile("(?s)```java\n(.*?)```").matcher(text);
        int found = 0;
        while (blocks.find()) {
            found++;
            play("README, block " + found, blocks.group(1).split("\n"));
        }
        CHECK.due("blocks of Java in README.md", found, 2);
        CHECK.finish();
    }

    private static void play(String title, String[] lines) {
        CHECK.due(title + " begins: " + lines[0], lines[0].equals("SixDays ship = new SixDays();") ? 1 : 0, 1);
        Story story = new Story(CHECK, title);
        for (int i = 1; i < lines.length; i++) {
            Matcher call = CALL.matcher(lines[i]);
            boolean told = call.matches();
            CHECK.due(title + ": a call and its answer: " + lines[i], told ? 1 : 0, 1);
            if (told) {
                story.due(call.group(1), Integer.parseInt(call.group(2)));
            }
        }
    }
}
