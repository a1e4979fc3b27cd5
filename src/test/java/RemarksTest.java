import java.io.IOException;
import java.nio.file.DirectoryStream;
import java.nio.file.Files;
import java.nio.file.Path;
import java.util.BitSet;
import java.util.LinkedHashMap;
import java.util.Map;
import java.util.regex.Matcher;
import java.util.regex.Pattern;

/** The remarks over the tests: what they quote stands in the document, and no word of the document stands in none of them. */
public final class RemarksTest {
    private static final Pattern REMARK = Pattern.compile(
            " {4}// (Head|Terms|Part [2-5]|Groups|Promise \\d+|Not promised): (\".*)");
    private static final Pattern QUOTE = Pattern.compile("\"([^\"]+)\"");
    private static final Pattern METHOD = Pattern.compile(" {4}private static void (\\w+)\\(\\) (throws \\w+ )?\\{");
    private static final Pattern WORD = Pattern.compile("[A-Za-z0-9]+");

    /** The parts of the document by their names, and which of their letters are quoted. */
    private static final Map<String, String> PARTS = new LinkedHashMap<>();
    private static final Map<String, BitSet> QUOTED = new LinkedHashMap<>();

    public static void main(String[] args) throws IOException {
        readDocument(Files.readString(Path.of("../shared/DOC.md")));
        // Head, Terms, the parts 2 to 5, Groups, 58 promises, Not promised; FaceTest holds the face.
        Desk.due("parts of the document", PARTS.size(), 8 + 58);
        int files = 0;
        try (DirectoryStream<Path> sources = Files.newDirectoryStream(Path.of("src/test/java"), "*Test.java")) {
            for (Path source : sources) {
                files++;
                check(source, Files.readString(source));
            }
        }
        Desk.due("there are tests", files > 0, true);
        for (String part : PARTS.keySet()) {
            everyWordIsQuoted(part);
        }
        Desk.end();
    }

    /** Takes the document apart at its headings and its marks ==== 2. to ==== 5.; headings, fences and signatures are no sentences. */
    private static void readDocument(String doc) {
        String part = "Title";
        Map<String, StringBuilder> parts = new LinkedHashMap<>();
        for (String line : doc.split("\n")) {
            String rest = line;
            if (line.startsWith("## ")) {
                part = partOf(line.substring(3));
                rest = "";
            } else if (line.startsWith("# ") || line.startsWith("```")) {
                rest = "";
            } else if (line.matches("==== [2-5]\\. .*")) {
                part = "Part " + line.charAt(5);
                rest = line.substring(7);
            } else if (line.startsWith("The constants:")) {
                part = "Groups";
            } else if (part.startsWith("Promise ")) {
                rest = line.replaceFirst("^`[^`]*`: ", "");
            }
            rest = rest.replace("==== 1.", "").replace("`", "");
            parts.computeIfAbsent(part, name -> new StringBuilder()).append(rest).append(' ');
        }
        parts.remove("Title");
        parts.remove("Face");
        for (Map.Entry<String, StringBuilder> one : parts.entrySet()) {
            PARTS.put(one.getKey(), squeeze(one.getValue().toString()));
            QUOTED.put(one.getKey(), new BitSet());
        }
    }

    private static String partOf(String heading) {
        switch (heading) {
            case "What it is": return "Head";
            case "The public face": return "Face";
            default: return heading.replaceFirst(":.*", "");
        }
    }

    private static void check(Path source, String text) {
        int begin = text.indexOf("void main(");
        String head = text.substring(begin, text.indexOf("    }\n", begin));
        boolean isOfBounds = source.getFileName().toString().startsWith("Bounds");
        boolean isRemarked = false;
        for (String line : text.split("\n")) {
            Matcher remark = REMARK.matcher(line);
            Matcher method = METHOD.matcher(line);
            if (remark.matches()) {
                isRemarked = true;
                quotes(source + ": " + line, remark.group(2), remark.group(1));
            } else if (method.matches()) {
                if (isRemarked || isOfBounds) {
                    Desk.due(source + ": " + method.group(1) + " has a remark", isRemarked, true);
                    Desk.due(source + ": " + method.group(1) + " is run", head.contains("  " + method.group(1) + "();"), true);
                }
                isRemarked = false;
            } else {
                Desk.due(source + ": a test stands behind its remarks: " + line, isRemarked && !line.startsWith("    // "), false);
            }
        }
    }

    private static void quotes(String where, String quoted, String part) {
        String words = PARTS.getOrDefault(part, "");
        Matcher quote = QUOTE.matcher(quoted);
        int found = 0;
        while (quote.find()) {
            found++;
            String one = squeeze(quote.group(1));
            int at = words.indexOf(one);
            Desk.due(where, at >= 0, true);
            while (at >= 0) {
                QUOTED.get(part).set(at, at + one.length());
                at = words.indexOf(one, at + 1);
            }
        }
        Desk.due(where + " quotes something", found > 0, true);
    }

    private static void everyWordIsQuoted(String part) {
        String words = PARTS.get(part);
        Matcher word = WORD.matcher(words);
        while (word.find()) {
            boolean isQuoted = QUOTED.get(part).get(word.start());
            if (!isQuoted) {
                int from = Math.max(0, word.start() - 30);
                int to = Math.min(words.length(), word.end() + 30);
                Desk.due(part + ": over no test stands " + word.group() + " in .." + words.substring(from, to) + "..", false, true);
            }
        }
        Desk.due(part + " is quoted", QUOTED.get(part).isEmpty(), false);
    }

    private static String squeeze(String text) {
        return text.replaceAll("\\s+", " ").trim();
    }
}
