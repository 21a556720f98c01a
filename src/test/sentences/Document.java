import java.io.IOException;
import java.nio.file.Files;
import java.nio.file.Path;
import java.util.ArrayList;
import java.util.LinkedHashMap;
import java.util.List;
import java.util.Map;

/** The document's terms and promises, and which of their words a test holds. */
final class Document {
    private static final Path FILE = Path.of("../shared/DOC.md");

    private final Map<String, String> sections = new LinkedHashMap<>();
    private final Map<String, boolean[]> heldSigns = new LinkedHashMap<>();

    Document() throws IOException {
        String section = "";
        boolean told = false;
        for (String line : Files.readAllLines(FILE)) {
            if (line.startsWith("## ")) {
                section = line.substring(3).replaceAll(":.*", "");
                told = section.equals("Terms") || section.startsWith("Promise ");
            } else if (told && line.matches("[A-Z ,]+")) {
                section = line;
            } else if (told && !line.isEmpty()) {
                String text = line.replaceFirst("^`[^`]*\\)`:\\s*", "");
                sections.merge(section, text, (before, more) -> before + " " + more);
            }
        }
        sections.forEach((name, text) -> heldSigns.put(name, new boolean[text.length()]));
    }

    /** Notes that a test holds these words; false if the section doesn't have them. */
    boolean hold(String section, String words) {
        String text = sections.getOrDefault(section, "");
        int start = text.indexOf(words);
        for (int index = start; start >= 0 && index < start + words.length(); index++) {
            heldSigns.get(section)[index] = true;
        }
        return start >= 0;
    }

    /** The words that no test holds, each with its section. */
    List<String> notHeld() {
        List<String> open = new ArrayList<>();
        sections.forEach((name, text) -> {
            StringBuilder rest = new StringBuilder();
            for (int index = 0; index < text.length(); index++) {
                rest.append(heldSigns.get(name)[index] ? '|' : text.charAt(index));
            }
            for (String words : rest.toString().split("\\|+")) {
                if (words.matches(".*\\w.*")) {
                    open.add(name + ": " + words.trim());
                }
            }
        });
        return open;
    }
}
