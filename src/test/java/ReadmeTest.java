import java.io.IOException;
import java.nio.file.Files;
import java.nio.file.Path;
import java.util.List;
import java.util.stream.Stream;

/** What README.md says of the use of the class and of its tests is so. */
public final class ReadmeTest {
    private static final Path README = Path.of("README.md");
    private static final Path TESTS = Path.of("src/test/java");

    private static final Check check = new Check();

    public static void main(String[] args) throws IOException {
        example();
        exampleIsThatOfThePage();
        pageNamesEachTest();
        check.end();
    }

    /** The page's example; what its remarks tell is asked behind its calls. */
    private static void example() {
        CutDesk desk = new CutDesk();
        int text = desk.paper(0);
        int table = desk.paper(2);
        check.same("PLAIN", desk.about(text, 0), 0);
        check.same("TABLE", desk.about(table, 0), 2);
        check.same("20 bytes",
                desk.feed(0x61096263, 0x0a642020, 0, 0, 0), 20);
        check.same("six bytes",
                desk.type(text, 0, 0, 6), 6);
        check.same("the rest of the tape goes", desk.count(4), 0);
        int piece = desk.copyRow(text, 0, 6, false);
        check.same("the first PIECE", piece, 0);
        check.same("three CELLS came",
                desk.putBox(table, piece, 0, 0), 3);
        check.same("CELLS that found no place",
                desk.lost(4), 0);
        check.same("2 bytes",
                desk.cellOf(table, 0, 1), 2);
        check.same("the first of them",
                desk.told(0), 98);
        check.same("the second", desk.told(1), 'c');
        check.isTrue("undone",
                desk.undo());
        for (int k = 0; k < 36; k++) {
            check.same("the table is empty again", desk.cellOf(table, k / 6, k % 6), 0);
        }
    }

    private static void exampleIsThatOfThePage() throws IOException {
        String here = Files.readString(TESTS.resolve("ReadmeTest.java"));
        List<String> page = Files.readAllLines(README);
        int first = page.indexOf("```java") + 1;
        check.isTrue("the page has an example", first > 0);
        int calls = 0;
        for (int k = first; k < page.size() && !page.get(k).equals("```"); k++) {
            String call = page.get(k).replaceAll(";.*", "");
            check.isTrue("the example's " + call + " is called here", here.contains("    " + call));
            calls++;
        }
        check.isTrue("the example has calls", calls > 5);
    }

    private static void pageNamesEachTest() throws IOException {
        String page = Files.readString(README);
        try (Stream<Path> files = Files.list(TESTS)) {
            for (Path file : files.toList()) {
                String name = file.getFileName().toString().replace(".java", "");
                check.isTrue("the page names " + name, page.contains("`" + name + "`"));
            }
        }
    }
}
