import java.io.IOException;
import java.nio.file.Files;
import java.nio.file.Path;

/** Tests of single sentences: each names the words of the document that it holds. */
class Sentences extends Scenes {
    private static final String DOCUMENT = oneLine(read(Path.of("../shared/DOC.md")));
    private static String sentence = "";

    /** From here on it is these words of the document that are tested; they must stand there. */
    static void says(String words) {
        sentence = words;
        if (!DOCUMENT.contains(oneLine(words))) {
            compare(words, "is a sentence of the document", false, true);
        }
    }

    static void due(String what, Object got, Object want) {
        compare(sentence, what, got, want);
    }

    /** The out, byte by byte, from one of its bytes on. */
    static void dueOut(Pair x, int start, byte[] want) {
        for (int i = 0; i < want.length; i++) {
            due("byte " + (start + i) + " of the out", x.out(start + i), want[i]);
        }
    }

    /** All bytes of an object's key, as one text. */
    static String keyOf(Pair x, int object, int generation) {
        int count = Integer.parseInt(x.key(object, generation));
        StringBuilder all = new StringBuilder();
        for (int i = 0; i < count; i++) {
            all.append(x.out(i)).append(' ');
        }
        return all.toString();
    }

    static void exit() {
        System.exit(wrong == 0 ? 0 : 1);
    }

    private static String oneLine(String words) {
        return words.replaceAll("\\s+", " ");
    }

    private static String read(Path path) {
        try {
            return Files.readString(path);
        } catch (IOException e) {
            throw new AssertionError(e);
        }
    }
}
