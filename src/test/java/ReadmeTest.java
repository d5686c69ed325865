import java.io.IOException;
import java.lang.reflect.Method;
import java.lang.reflect.Modifier;
import java.nio.file.Files;
import java.nio.file.Path;
import java.util.ArrayList;
import java.util.HashSet;
import java.util.List;
import java.util.Set;
import java.util.stream.Stream;

/** README.md's examples, run; and that it tells of every call and every test. */
public final class ReadmeTest {
    private static final Path README = Path.of("README.md");
    private static final Path TESTS = Path.of("src/test/java");

    public static void main(String[] args) throws IOException {
        examples();
        examplesAreThoseOfReadme();
        tellsOfEveryCall();
        tellsOfEveryTest();
        Check.end();
    }

    private static void examples() {
        LinkYard yard = new LinkYard();
        int unit = yard.unit(LinkYard.NONE);          // a loose unit
        int text = yard.section(unit, 0, 8, 4);       // TEXT, 8 bytes, aligned to 4
        int data = yard.section(unit, 1, 4, 4);       // DATA, 4 bytes
        yard.word(data, 0, 7);
        yard.symbol(text, 0, 1, 1);                   // name 1, GLOBAL
        int here = yard.symbol(data, 0, 2, 0);        // name 2, LOCAL
        yard.relocation(text, 0, 0, here, 0);         // WORD: the word gets the address of `here`
        yard.entry(1);
        int bytes = yard.link(4096);                  // 12
        int word = yard.at(4096);                     // 4104, the address of the data section
        Check.is("bytes", 12, bytes);
        Check.is("word", 4104, word);
        Check.is("that is the data section's address", 4104, yard.address(data));
        fault(yard);
    }

    private static void fault(LinkYard yard) {
        yard.clear();
        int loose = yard.unit(LinkYard.NONE);
        int start = yard.section(loose, 0, 4, 4);
        yard.symbol(start, 0, 1, 1);                  // name 1, GLOBAL
        int wanted = yard.other(loose, 0, 0, 9, 1);   // name 9, UNDEFINED and GLOBAL
        yard.relocation(start, 0, 5, wanted, 0);      // JUMP to name 9
        yard.entry(1);
        int failed = yard.link(0);                    // NONE
        int kind = yard.fault(0);                     // 2, MISSING
        int name = yard.fault(1);                     // 9
        int member = yard.unit(0);                    // a member of archive 0
        int body = yard.section(member, 0, 16, 16);   // TEXT, 16 bytes, aligned to 16
        yard.symbol(body, 4, 9, 1);                   // name 9, GLOBAL
        int linked = yard.link(0);                    // 32: the member is needed, so it comes in
        int jump = yard.at(0);                        // 5, which is the address 20 counted in words
        Check.is("failed", LinkYard.NONE, failed);
        Check.is("kind", 2, kind);
        Check.is("name", 9, name);
        Check.is("linked", 32, linked);
        Check.is("jump", 5, jump);
        Check.is("the member is in", true, yard.isIn(member));
        Check.is("the address jumped to", 20, yard.means(wanted, 2));
    }

    /** So that what a reader copies from there is what is run here, line by line. */
    private static void examplesAreThoseOfReadme() throws IOException {
        Set<String> run = new HashSet<>();
        for (String line : Files.readAllLines(TESTS.resolve("ReadmeTest.java"))) {
            run.add(line.strip());
        }
        List<String> examples = exampleLines();
        Check.is("README.md has two examples", 26, examples.size());
        for (String line : examples) {
            Check.is("run here: " + line, true, run.contains(line));
        }
    }

    private static List<String> exampleLines() throws IOException {
        List<String> lines = new ArrayList<>();
        boolean inside = false;
        for (String line : Files.readAllLines(README)) {
            if (line.startsWith("```")) {
                inside = line.equals("```java");
            } else if (inside) {
                lines.add(line.strip());
            }
        }
        return lines;
    }

    private static void tellsOfEveryCall() throws IOException {
        String readme = Files.readString(README);
        for (Method call : LinkYard.class.getDeclaredMethods()) {
            if (Modifier.isPublic(call.getModifiers())) {
                Check.is("README.md has a row for " + call.getName(), true,
                        readme.contains("\n| `" + call.getName() + "("));
            }
        }
    }

    private static void tellsOfEveryTest() throws IOException {
        String readme = Files.readString(README);
        Check.is("README.md says how to run the tests", true, readme.contains("\n    .ci/run\n"));
        try (Stream<Path> files = Files.list(TESTS)) {
            files.map(file -> file.getFileName().toString())
                    .filter(file -> file.endsWith("Test.java"))
                    .map(file -> file.substring(0, file.length() - ".java".length()))
                    .forEach(test -> Check.is("README.md tells of " + test, true,
                            readme.contains("`" + test + "`")));
        }
    }
}
