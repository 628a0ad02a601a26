import java.io.IOException;
import java.nio.file.Files;
import java.nio.file.Path;
import java.util.ArrayList;
import java.util.List;

/** The sentences of ../shared/DOC.md, so that none of them is left without a test. */
final class Document {
    private static final Path PATH = Path.of("../shared/DOC.md");
    private static final int PROMISES = 29;

    private Document() {
    }

    /** Of "Terms", and of the use of an object ahead of it. */
    static List<String> terms() {
        List<String> terms = new ArrayList<>();
        for (String line : part("## What it is", "## The public face")) {
            if (line.startsWith("An object is used")) {
                terms.add(line);
            }
        }
        for (String line : part("## Terms", "## Promise 1:")) {
            if (line.startsWith("#") || !line.endsWith(".") && !line.endsWith(")")) {
                continue;
            }
            terms.addAll(List.of(line.split("(?<=\\.|\\.\\)) ")));
        }
        return terms;
    }

    /** The constants, the constructor and the methods, as the document writes them. */
    static List<String> face() {
        List<String> face = new ArrayList<>();
        for (String line : part("## The public face", "## Terms")) {
            if (line.startsWith("public ") && line.endsWith(";")) {
                face.add(line);
            }
        }
        return face;
    }

    /** Of the promises: what each one does, and the pieces of its rows, with its number ahead. */
    static List<String> promises() {
        List<String> rows = new ArrayList<>();
        for (int promise = 1; promise <= PROMISES; promise++) {
            for (String line : part("## Promise " + promise + ":", "## ")) {
                boolean face = line.startsWith("`");
                String row = face ? line.substring(line.indexOf("`: ") + 3) : line.replaceFirst("^- ", "");
                for (String piece : row.split(face ? "(?<=\\.|\\.\\)) " : "; ")) {
                    rows.add(promise + ": " + piece.replaceFirst("\\.$", ""));
                }
            }
        }
        return rows;
    }

    private static List<String> part(String heading, String next) {
        List<String> part = new ArrayList<>();
        boolean inside = false;
        for (String line : lines()) {
            if (inside && line.startsWith(next)) {
                break;
            }
            if (inside && !line.isBlank()) {
                part.add(line.strip());
            }
            inside = inside || line.startsWith(heading);
        }
        return part;
    }

    /** None where the document is not at hand: the tests themselves need nothing of it. */
    private static List<String> lines() {
        try {
            return Files.exists(PATH) ? Files.readAllLines(PATH) : List.of();
        } catch (IOException e) {
            throw new IllegalStateException(e);
        }
    }
}
