import java.io.ByteArrayOutputStream;
import java.io.IOException;
import java.io.PrintStream;
import java.nio.charset.StandardCharsets;
import java.nio.file.Files;
import java.nio.file.Path;

/** The example of README.md: its lines stand below, word for word, and print what README.md says. */
public final class ReadmeTest {
    public static void main(String[] args) throws IOException {
        String readme = Files.readString(Path.of("README.md"));
        String source = Files.readString(Path.of("src/test/java/ReadmeTest.java"));
        String body = between(source, "private static void example() {\n", "\n    }\n");
        Check.same("the example", between(readme, "```java\n", "\n```\n"), body.replaceAll("(?m)^ {8}", ""));
        Check.same("what it prints", printed(), between(readme, "```text\n", "```\n"));
        Check.end();
    }

    private static String between(String all, String first, String last) {
        int from = all.indexOf(first);
        int to = from < 0 ? -1 : all.indexOf(last, from + first.length());
        return to < 0 ? "nothing behind " + first : all.substring(from + first.length(), to);
    }

    private static String printed() {
        PrintStream screen = System.out;
        ByteArrayOutputStream paper = new ByteArrayOutputStream();
        System.setOut(new PrintStream(paper, true, StandardCharsets.UTF_8));
        example();
        System.setOut(screen);
        return paper.toString(StandardCharsets.UTF_8);
    }

    private static void example() {
        RuleText board = new RuleText();
        for (char u : "pwr".toCharArray()) board.name(0, 0, u);     // class 0 is called pwr
        for (char u : "bay".toCharArray()) board.name(2, 0, u);     // area 0 is called bay
        board.shape(0, 0, 0, 5_000_000, 5_000_000);                 // and is this rectangle

        String text = "gap between class pwr and any least 0.2 mm;\n"
            + "width of class pwr on layer 3 in bay rank 7 10 to 20 mil;\n"
            + "gap between any and class pwr most 150 um;\n";
        for (char u : text.toCharArray()) board.unit(u);
        System.out.println(board.read());                           // how many rules

        System.out.println(board.value(0, 0));                      // the low end of rule 0, in nm
        System.out.println(board.value(0, 1) == RuleText.NONE);     // it has no high end
        System.out.println(board.rule(1, 5));                       // its LAYER: 3 + N for layer N
        System.out.println(board.rank(0));                          // how many stand ahead of rule 0
        System.out.println(board.never(0));                         // rule 0 can never win: rule 2 covers it
        System.out.println(board.clash(0, 0) + " and " + board.clash(0, 1));
        for (int i = 0, u; (u = board.write(i)) != RuleText.NONE; i++) System.out.print((char) u);

        board.clear();
        for (char u : "via 1 cm;".toCharArray()) board.unit(u);
        System.out.println(board.read());                           // -1 minus 2: word 2, cm, is wrong
        System.out.println(board.kinds());                          // the rules of old are still there
    }
}
