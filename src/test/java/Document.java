import java.io.IOException;
import java.nio.file.Files;
import java.nio.file.Path;
import java.util.ArrayList;
import java.util.List;

/** What tests read of the document itself, so that they hold its words and not a copy of them. */
final class Document {
    private static final Path DOCUMENT = Path.of("../shared/DOC.md");
    private static final String FACE_STARTS = "public final class EchoCave {";

    private Document() {
    }

    /** The constructor and the methods of the public face, a declaration each, without the semicolon. */
    static List<String> face() throws IOException {
        List<String> face = new ArrayList<>();
        boolean inFace = false;
        for (String line : Files.readAllLines(DOCUMENT)) {
            if (inFace && line.equals("}")) {
                return face;
            }
            if (inFace) {
                face.add(line.strip().replace(";", ""));
            }
            inFace = inFace || line.equals(FACE_STARTS);
        }
        throw new IOException("the document has no public face");
    }

    /** A declaration without "public" and without what it throws. */
    static String withoutThrows(String declaration) {
        return declaration.replace("public ", "").replaceAll(" throws .*", "");
    }

    /** One blank for each row of blanks and line ends, so that it does not matter where a line is broken. */
    static String onOneLine(String text) {
        return text.replaceAll("\\s+", " ");
    }
}
