import java.io.IOException;
import java.lang.reflect.Method;
import java.lang.reflect.Modifier;
import java.nio.file.Files;
import java.nio.file.Path;
import java.util.ArrayList;
import java.util.List;

/** README.md: its examples stand here line by line and answer what they say there; it names every call. */
public final class ReadmeTest extends Scenes {
    private static final Path PAGE = Path.of("README.md");
    private static final Path THIS = Path.of("src/test/java/ReadmeTest.java");

    public static void main(String[] args) throws IOException {
        revision4();
        revision5();
        examplesStandHere();
        everyCallIsNamed();
        System.exit(wrong == 0 ? 0 : 1);
    }

    private static void revision4() {
        CryptRows x = new CryptRows(4);
        x.word('u', false);            // the user's word, byte by byte
        x.word('o', true);             // the owner's
        x.id((byte) 7);
        x.make(-44);                   // entries 0 and 1; read them with x.entry(which, i)

        x.open('o');                   // the word that is tried, byte by byte
        int opened = x.open(-1);       // 2: opened as the owner's

        for (int k = 0; k < 4; k++) {
            x.tape(k);                 // 16 bytes: the vector that filter 2 takes
        }
        x.apply(9, false, (byte) 65);  // a byte of object 9, to be enciphered
        int count = x.end();           // 32: the vector and one block
        byte[] shut = new byte[count];
        for (int i = 0; i < count; i++) {
            shut[i] = x.out(i);
        }

        for (byte b : shut) {
            x.apply(9, true, b);       // and back
        }
        int back = x.end();            // 1
        byte first = x.out(0);         // 65

        compare("README.md", "opened", opened, 2);
        compare("README.md", "count", count, 32);
        compare("README.md", "back", back, 1);
        compare("README.md", "first", first, 65);
    }

    private static void revision5() {
        CryptRows y = new CryptRows(5);
        y.word('u', false);
        for (int k = 0; k < 17; k++) {
            y.tape(0x01020304 * k);
        }
        int entries = y.make(-44);     // 5
        y.open('u');
        int asUser = y.open(-1);       // 1: opened as the user's
        int bytes = y.key(9, 0);       // 32

        compare("README.md", "entries", entries, 5);
        compare("README.md", "asUser", asUser, 1);
        compare("README.md", "bytes", bytes, 32);
    }

    private static void examplesStandHere() throws IOException {
        List<String> examples = examples();
        List<String> here = stripped(Files.readAllLines(THIS));
        int at = 0;
        for (String line : examples) {
            int found = here.subList(at, here.size()).indexOf(line);
            compare("README.md", "stands in ReadmeTest: " + line, found >= 0, true);
            at += found + 1;
        }
        compare("README.md", "has examples", examples.size() > 20, true);
    }

    private static List<String> examples() throws IOException {
        List<String> examples = new ArrayList<>();
        boolean inside = false;
        for (String line : stripped(Files.readAllLines(PAGE))) {
            if (line.startsWith("```")) {
                inside = line.equals("```java");
            } else if (inside && !line.isEmpty()) {
                examples.add(line);
            }
        }
        return examples;
    }

    private static List<String> stripped(List<String> lines) {
        List<String> all = new ArrayList<>();
        for (String line : lines) {
            all.add(line.strip());
        }
        return all;
    }

    private static void everyCallIsNamed() throws IOException {
        String page = Files.readString(PAGE);
        for (Method method : CryptRows.class.getDeclaredMethods()) {
            if (Modifier.isPublic(method.getModifiers())) {
                String row = "| `" + method.getName() + "(";
                compare("README.md", "has a row of " + method.getName(), page.contains(row), true);
            }
        }
    }
}
