import java.io.IOException;
import java.nio.file.Files;
import java.nio.file.Path;
import java.util.LinkedHashMap;
import java.util.Map;

/** Which sentences of the document have been tested, and which answers were not as due. */
final class Book {
    private static final Path DOCUMENT = Path.of("../shared/DOC.md");

    private static final class Section {
        final String text;
        final boolean[] named;

        Section(String text) {
            this.text = text;
            named = new boolean[text.length()];
        }

        boolean name(String words) {
            boolean found = false;
            for (int at = text.indexOf(words); at >= 0; at = text.indexOf(words, at + 1)) {
                boolean withinWord = at > 0 && Character.isLetterOrDigit(text.charAt(at - 1));
                for (int i = at; i < at + words.length() && !withinWord; i++) {
                    named[i] = true;
                }
                found |= !withinWord;
            }
            return found;
        }

        String firstUnnamed() {
            for (int i = 0; i < named.length; i++) {
                if (!named[i] && Character.isLetterOrDigit(text.charAt(i))) {
                    return text.substring(i, Math.min(text.length(), i + 60));
                }
            }
            return null;
        }
    }

    private final Map<String, Section> sections = new LinkedHashMap<>();
    private String open = "";
    private int sentences = 0;
    private int checks = 0;
    private int checksOfOpen = 0;
    private int wrong = 0;

    Book() throws IOException {
        for (String part : Files.readString(DOCUMENT).split("\n## ")) {
            int end = part.indexOf('\n');
            String title = part.substring(0, end).replaceAll(":.*", "");
            sections.put(title, new Section(plain(part.substring(end))));
        }
    }

    /** Without the fences, the calls' heads and what is said of the interface alone: nothing of these can be tested. */
    private static String plain(String text) {
        return text.replaceAll("```\\w*", " ").replaceAll("(?m)^Ahead of the calls.*$", " ").replaceAll("\\s+", " ")
            .replaceAll("=+ \\d ", "").replaceAll("^ `[^`]*`: ", "").trim();
    }

    /** All checks up to the next sentence are of this one. */
    void says(String section, String words) {
        closeSentence();
        open = section + ", '" + words + "'";
        sentences++;
        Section s = sections.get(section);
        if (s == null || !s.name(words)) {
            tell("does not stand in the document");
        }
    }

    void check(boolean holds, String otherwise) {
        checks++;
        checksOfOpen++;
        if (!holds) {
            tell(otherwise);
        }
    }

    private void tell(String what) {
        wrong++;
        if (wrong <= 40) {
            System.out.println(open + ": " + what);
        }
    }

    private void closeSentence() {
        if (checksOfOpen == 0 && sentences > 0) {
            tell("has no check");
        }
        checksOfOpen = 0;
    }

    /** Each word of the terms and of the promises must belong to a sentence that was tested. */
    int close() {
        closeSentence();
        for (Map.Entry<String, Section> e : sections.entrySet()) {
            String unnamed = e.getValue().firstUnnamed();
            if ((e.getKey().equals("Terms") || e.getKey().startsWith("Promise ")) && unnamed != null) {
                open = e.getKey();
                tell("no test names '" + unnamed + "'");
            }
        }
        System.out.println(sentences + " sentences, " + checks + " checks, " + wrong + " wrong");
        return wrong;
    }
}
