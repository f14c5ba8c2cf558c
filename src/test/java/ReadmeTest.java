import java.io.IOException;
import java.nio.charset.StandardCharsets;
import java.nio.file.Files;
import java.nio.file.Path;
import java.util.List;

/** README.md's examples, one behind the other: what stands behind a line there is due here. */
public final class ReadmeTest {
    private static final Check check = new Check();

    private static void examples() {
        DoorServer door = new DoorServer();
        boolean isNew = door.user(7, 123456789L, 9);
        door.draft(1, 5, 99L);
        door.name(7);
        door.password(0, 123456789L, 9);
        door.prove(0);
        int code = door.send(0);
        int length = door.size();
        int identifier = door.byteAt(1);
        int again = door.send(0);
        int alike = door.count(4);
        check.due("isNew", isNew ? 1 : 0, 1);
        check.due("code", code, 2);
        check.due("length", length, 38);
        check.due("identifier", identifier, 5);
        check.due("again", again, 2);
        check.due("alike", alike, 1);

        door.draft(1, 6, 100L);
        door.name(7);
        door.hello(1);
        door.prove(0);
        int asked = door.send(0);
        door.draft(1, 7, 101L);
        door.name(7);
        door.reply(123456789L, 9);
        door.prove(0);
        int let = door.send(0);
        check.due("asked", asked, 11);
        check.due("let", let, 2);

        door.draft(4, 8, 0L);
        door.name(7);
        door.put(44, 2, 65);
        door.number(40, 3);
        door.number(42, 1500);
        door.seal(0);
        int written = door.send(0);
        long in = door.record(0, 4);
        check.due("written", written, 5);
        check.due("in", in, 1500);
    }

    /** Every line of the examples stands in this file, in the same order, so that it has been run above. */
    private static void areThoseOfTheReadme() throws IOException {
        List<String> own = lines("src/test/java/ReadmeTest.java");
        boolean inExample = false;
        int at = 0;
        for (String line : lines("README.md")) {
            if (line.startsWith("```")) {
                inExample = line.equals("```java");
            } else if (inExample) {
                String statement = line.replaceAll(" *//.*", "").trim();
                int found = own.subList(at, own.size()).indexOf(statement);
                check.due("README.md's line is run: " + statement, found < 0 ? 0 : 1, 1);
                at += found + 1;
            }
        }
        check.due("README.md has examples", at > 0 ? 1 : 0, 1);
    }

    private static List<String> lines(String file) throws IOException {
        return Files.readAllLines(Path.of(file), StandardCharsets.UTF_8).stream().map(String::trim).toList();
    }

    public static void main(String[] args) throws IOException {
        examples();
        areThoseOfTheReadme();
        check.end();
    }
}
