import java.io.IOException;
import java.io.UncheckedIOException;
import java.nio.file.Files;
import java.nio.file.Path;

/** The document's own words, by promise; 0 is all that stands ahead of promise 1. */
final class Doc {
    static final int PROMISES = 27;
    private static final String[] SECTIONS = read();

    private Doc() {
    }

    private static String[] read() {
        try {
            String text = Files.readString(Path.of("../shared/DOC.md"));
            text = text.substring(0, text.indexOf("## Not promised"));
            return text.replaceAll("\\s+", " ").split("## Promise \\d+: ");
        } catch (IOException gone) {
            throw new UncheckedIOException(gone);
        }
    }

    static String section(int promise) {
        return SECTIONS[promise];
    }

    static boolean says(int promise, String words) {
        return SECTIONS[promise].contains(words);
    }
}
