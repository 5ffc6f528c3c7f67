import java.io.IOException;
import java.nio.charset.StandardCharsets;
import java.nio.file.Files;
import java.nio.file.Path;
import java.util.LinkedHashMap;
import java.util.Map;

/** The document, by its parts: "What it is", "Terms", "Terms 1" to "Terms 4", "Promise 1" to "Promise 25". */
final class Document {
    private final Map<String, String> parts = new LinkedHashMap<>();

    static Document read(Path path) throws IOException {
        Document document = new Document();
        String part = "";
        for (String line : Files.readAllLines(path, StandardCharsets.UTF_8)) {
            if (line.startsWith("## Promise ")) {
                part = line.substring(3, line.indexOf(':'));
            } else if (line.startsWith("## ")) {
                part = line.substring(3);
            } else if (line.startsWith("== ")) {
                part = "Terms " + line.substring(3, line.indexOf('.'));
            } else {
                document.parts.merge(part, line, (before, more) -> before + "\n" + more);
            }
        }
        return document;
    }

    static String plain(String words) {
        return words.replaceAll("\\s+", " ").trim();
    }

    Map<String, String> parts() {
        return parts;
    }

    boolean says(String at, String words) {
        return plain(parts.getOrDefault(at, "")).contains(plain(words));
    }
}
