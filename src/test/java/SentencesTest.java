import java.nio.file.Files;
import java.nio.file.Path;
import java.util.ArrayList;
import java.util.LinkedHashMap;
import java.util.List;
import java.util.Map;
import java.util.regex.Matcher;
import java.util.regex.Pattern;

/**
 * That no sentence of the document is left out: what the tests of edges quote stands there, and all words of
 * the terms and the promises are quoted by one of them.
 */
public final class SentencesTest {
    private static final Path DOCUMENT = Path.of("../shared/DOC.md");

    public static void main(String[] args) throws Exception {
        EdgesOfTapeAndSchemaTest.all();
        EdgesOfBufferTest.all();
        EdgesOfBuildingTest.all();
        EdgesOfPromises1To9Test.all();
        EdgesOfPromises10To19Test.all();
        EdgesOfPromises20To27Test.all();
        if (Files.exists(DOCUMENT)) {
            compare(sections(Files.readString(DOCUMENT)));
        } else {
            System.out.println("there is no " + DOCUMENT + " to compare the sentences with");
        }
        Check.end();
    }

    private static String plain(String text) {
        return text.replaceAll("```(text|java)?", " ").replaceAll("\\s+", " ").trim();
    }

    /** The words of each section, without what only names it or says what stands where. */
    private static Map<String, String> sections(String document) {
        Map<String, String> sections = new LinkedHashMap<>();
        Matcher promise = Pattern.compile("(?s)## (Promise \\d+): .*?\n(.*?)(?=\n## |\\z)").matcher(document);
        while (promise.find()) {
            sections.put(promise.group(1), plain(promise.group(2)).replaceFirst("^`[^`]*`: ", ""));
        }
        int terms = document.indexOf("## Terms");
        int behind = document.indexOf("Of several exceptions", terms);
        int end = document.indexOf("## Promise 1:", terms);
        Matcher term = Pattern.compile("(?ms)^(\\d)\\. (.*?)(?=^\\d\\. |\\z)").matcher(document.substring(terms,
            behind));
        while (term.find()) {
            sections.put("Terms " + term.group(1), plain(term.group(2)).replaceFirst("^(BUILDING|READING)\\. ", ""));
        }
        sections.put("Behind the terms", plain(document.substring(behind, end)).replace("The constants: ", "")
            .replaceAll("Ahead of the calls .*? the interface says: ---- [a-z, ]*\\.", ""));
        int what = document.indexOf("An object is used");
        sections.put("What it is", plain(document.substring(what, document.indexOf("## The public face"))));
        return sections;
    }

    private static void compare(Map<String, String> sections) {
        Check.same("sections", 27 + 5 + 2, sections::size);
        Map<String, boolean[]> quoted = new LinkedHashMap<>();
        for (Map.Entry<String, String> section : sections.entrySet()) {
            quoted.put(section.getKey(), new boolean[section.getValue().length()]);
        }
        List<String[]> sentences = new ArrayList<>(Check.SENTENCES);
        // What is wrong from here on is wrong with the quotes, not with the last of the sentences.
        Check.SENTENCES.clear();
        for (String[] sentence : sentences) {
            String text = sections.getOrDefault(sentence[0], "");
            int at = text.indexOf(sentence[1]);
            Check.same(sentence[0] + " says: " + sentence[1], true, () -> at >= 0);
            if (at >= 0) {
                java.util.Arrays.fill(quoted.get(sentence[0]), at, at + sentence[1].length(), true);
            }
        }
        for (Map.Entry<String, String> section : sections.entrySet()) {
            Check.same("not quoted of " + section.getKey(), List.of(),
                () -> notQuoted(section.getValue(), quoted.get(section.getKey())));
        }
    }

    private static List<String> notQuoted(String text, boolean[] isQuoted) {
        List<String> pieces = new ArrayList<>();
        StringBuilder piece = new StringBuilder();
        for (int i = 0; i <= text.length(); i++) {
            if (i < text.length() && !isQuoted[i]) {
                piece.append(text.charAt(i));
            } else {
                if (!piece.toString().isBlank()) {
                    pieces.add(piece.toString().trim());
                }
                piece.setLength(0);
            }
        }
        return pieces;
    }
}
