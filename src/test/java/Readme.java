import java.io.IOException;
import java.io.UncheckedIOException;
import java.nio.charset.StandardCharsets;
import java.nio.file.Files;
import java.nio.file.Path;
import java.util.ArrayList;
import java.util.List;
import java.util.regex.Matcher;
import java.util.regex.Pattern;

/** README.md: its sections, and the blocks of code in them. */
final class Readme {
    private static final String TEXT = read();

    private Readme() {
    }

    private static String read() {
        try {
            return Files.readString(Path.of("README.md"), StandardCharsets.UTF_8);
        } catch (IOException e) {
            throw new UncheckedIOException(e);
        }
    }

    /** From a heading to the next one; nothing if there is no such heading. */
    static String section(String heading) {
        int start = TEXT.indexOf("## " + heading + "\n");
        int end = TEXT.indexOf("\n## ", start + 1);
        return start < 0 ? "" : TEXT.substring(start, end < 0 ? TEXT.length() : end);
    }

    static List<String> blocks(String heading, String language) {
        List<String> blocks = new ArrayList<>();
        Matcher block = Pattern.compile("(?s)```" + language + "\n(.*?)```\n").matcher(section(heading) + "\n");
        while (block.find()) {
            blocks.add(block.group(1));
        }
        return blocks;
    }

    /** The only block of its language in a section; nothing if there is none, or more than one. */
    static String block(String heading, String language) {
        List<String> blocks = blocks(heading, language);
        Due.is("blocks of " + language + " under " + heading, 1, blocks.size());
        return blocks.size() == 1 ? blocks.get(0) : "";
    }
}
