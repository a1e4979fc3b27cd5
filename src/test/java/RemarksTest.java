import java.io.IOException;
import java.nio.file.DirectoryStream;
import java.nio.file.Files;
import java.nio.file.Path;
import java.util.HashSet;
import java.util.Set;
import java.util.regex.Matcher;
import java.util.regex.Pattern;

/** The remarks over the tests of bounds: what they quote stands in the document, and each promise is quoted. */
public final class RemarksTest {
    private static final Pattern REMARK = Pattern.compile(" {4}// (Head|Terms|Part [2-5]|Promise (\\d+)): (\".*)");
    private static final Pattern QUOTE = Pattern.compile("\"([^\"]+)\"");
    private static final Pattern METHOD = Pattern.compile(" {4}private static void (\\w+)\\(\\) \\{");

    public static void main(String[] args) throws IOException {
        String doc = squeeze(Files.readString(Path.of("../shared/DOC.md")).replace("`", ""));
        Set<Integer> promises = new HashSet<>();
        int files = 0;
        try (DirectoryStream<Path> sources = Files.newDirectoryStream(Path.of("src/test/java"), "Bounds*Test.java")) {
            for (Path source : sources) {
                files++;
                check(source, Files.readString(source), doc, promises);
            }
        }
        Desk.due("there are tests of bounds", files > 0, true);
        for (int promise = 1; promise <= 58; promise++) {
            Desk.due("promise " + promise + " is quoted", promises.contains(promise), true);
        }
        Desk.end();
    }

    private static void check(Path source, String text, String doc, Set<Integer> promises) {
        String head = text.substring(text.indexOf("void main("), text.indexOf("Desk.end();"));
        boolean isRemarked = false;
        for (String line : text.split("\n")) {
            Matcher remark = REMARK.matcher(line);
            Matcher method = METHOD.matcher(line);
            if (remark.matches()) {
                isRemarked = true;
                quotes(source + ": " + line, remark.group(3), section(doc, remark.group(1)));
                if (remark.group(2) != null) {
                    promises.add(Integer.parseInt(remark.group(2)));
                }
            } else if (method.matches()) {
                Desk.due(source + ": " + method.group(1) + " has a remark", isRemarked, true);
                Desk.due(source + ": " + method.group(1) + " is run", head.contains("  " + method.group(1) + "();"), true);
                isRemarked = false;
            }
        }
    }

    private static void quotes(String where, String quoted, String section) {
        Matcher quote = QUOTE.matcher(quoted);
        int found = 0;
        while (quote.find()) {
            found++;
            Desk.due(where, section.contains(squeeze(quote.group(1))), true);
        }
        Desk.due(where + " quotes something", found > 0, true);
    }

    /** The part of the document that a remark names: the terms are told apart by numbers alone. */
    private static String section(String doc, String name) {
        if (name.startsWith("Promise")) {
            int from = doc.indexOf("## " + name + ":");
            int to = doc.indexOf("## ", from + 3);
            return from < 0 ? "" : doc.substring(from, to < 0 ? doc.length() : to);
        }
        if (name.equals("Head")) {
            return doc.substring(0, doc.indexOf("## Terms"));
        }
        return part(doc.substring(doc.indexOf("## Terms"), doc.indexOf("The constants:")), name);
    }

    private static String part(String terms, String name) {
        int number = name.equals("Terms") ? 1 : name.charAt(name.length() - 1) - '0';
        int from = number == 1 ? 0 : terms.indexOf("==== " + number + ".");
        int to = terms.indexOf("==== " + (number + 1) + ".");
        return terms.substring(Math.max(from, 0), to < 0 ? terms.length() : to);
    }

    private static String squeeze(String text) {
        return text.replaceAll("\\s+", " ");
    }
}
