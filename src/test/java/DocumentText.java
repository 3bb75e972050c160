import java.nio.file.Files;
import java.nio.file.Path;
import java.util.ArrayList;
import java.util.LinkedHashMap;
import java.util.List;
import java.util.Map;

/** The sentences of ../shared/DOC.md, by the headings above them. */
final class DocumentText {
    private final Map<String, List<String>> sections = new LinkedHashMap<>();

    DocumentText() {
        List<String> section = new ArrayList<>();
        for (String line : lines()) {
            if (line.startsWith("## ")) {
                String heading = line.substring(3);
                section = new ArrayList<>();
                sections.put(heading.startsWith("Promise ") ? heading.replaceAll(":.*", "") : heading, section);
            } else if (line.startsWith("`")) {
                // A promise begins with its method's face, which FaceTest checks, and tells behind it what that does.
                section.add(line.substring(line.lastIndexOf("`: ") + 3));
            } else if (line.startsWith("- ") || line.startsWith("Throws ")) {
                section.add(line);
            } else if (!line.isEmpty()) {
                section.addAll(List.of(line.split("(?<=\\.) ")));
            }
        }
    }

    private static List<String> lines() {
        try {
            return Files.readAllLines(Path.of("../shared/DOC.md"));
        } catch (java.io.IOException e) {
            throw new IllegalStateException(e);
        }
    }

    boolean has(String heading, String sentence) {
        return sections.getOrDefault(heading, List.of()).contains(sentence);
    }

    /** What a test must be there for: all of the terms and promises, but for what only gives a name. */
    List<String> toBeTested() {
        List<String> found = new ArrayList<>();
        sections.forEach((heading, sentences) -> {
            for (String sentence : sentences) {
                if (isToBeTested(heading, sentence)) {
                    found.add(heading + ": " + sentence);
                }
            }
        });
        return found;
    }

    private static boolean isToBeTested(String heading, String sentence) {
        if (heading.startsWith("Promise ")) {
            boolean isName = sentence.matches("- `\\w+`: [a-z ]+");
            return !isName;
        }
        // Of the terms' single words each is a title; the examples are in WorkshopTest.
        boolean isTitle = sentence.indexOf(' ') < 0;
        boolean isExample = sentence.startsWith("- ") || sentence.startsWith("Examples: ");
        return heading.equals("Terms") ? !isTitle && !isExample : sentence.contains("512 calls") && heading.equals("What it is");
    }
}
