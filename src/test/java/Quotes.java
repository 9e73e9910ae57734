import java.io.IOException;
import java.nio.file.Files;
import java.nio.file.Path;

/**
 * A part of ../shared/DOC.md, quoted piece by piece: in its order, nothing left out, and something asked behind each piece.
 * So a sentence without a test, or one that the document no longer has, is an answer that is not as due.
 */
final class Quotes {
    private final Checks checks;
    private final String part;
    private int at = 0;
    private int askedBefore = 0;
    private String piece = "";

    Quotes(Checks checks, String from, String to) throws IOException {
        this.checks = checks;
        String document = Files.readString(Path.of("../shared/DOC.md"));
        int start = document.indexOf(from);
        int end = document.indexOf(to, Math.max(start, 0));
        checks.due("the document has " + from + " .. " + to, start >= 0 && end > start, true);
        part = start >= 0 && end > start ? plain(document.substring(start, end)) : "";
    }

    /** Without headings, fences and the numbers of the parts, with one blank between words. */
    private static String plain(String text) {
        return text.replaceAll("(?m)^#.*$", "").replaceAll("(?m)^```.*$", "").replaceAll("==== \\d\\. ", "").replaceAll("\\s+", " ").trim();
    }

    void says(String quote) {
        leave();
        String text = plain(quote);
        checks.due("the document goes on \"" + part.substring(at, Math.min(part.length(), at + 60)) + "\" as \"" + text + "\"", part.startsWith(text, at), true);
        at = Math.min(part.length(), at + text.length());
        while (at < part.length() && part.charAt(at) == ' ') {
            at++;
        }
        piece = text;
        askedBefore = checks.asked();
    }

    void due(String call, long got, long want) {
        checks.due(call + " (" + piece + ")", got, want);
    }

    void due(String call, boolean got, boolean want) {
        due(call, got ? 1 : 0, want ? 1 : 0);
    }

    void fault(String text, int kind, int place) {
        checks.fault(text, kind, place);
    }

    void fine(String text) {
        checks.fine(text);
    }

    void lies(HideReader reader, int... row) {
        checks.lies(reader, piece, row);
    }

    private void leave() {
        if (!piece.isEmpty()) {
            checks.due("something is asked of: " + piece, checks.asked() > askedBefore, true);
        }
    }

    void close() {
        leave();
        checks.due("left out: " + part.substring(at), at, part.length());
    }
}
