import java.io.IOException;
import java.nio.file.Files;
import java.nio.file.Path;
import java.util.ArrayList;
import java.util.List;

/** README.md's examples: every line of them is called here, and has to answer what stands behind its slashes. */
public final class ReadmeTests {
    private static final Path README = Path.of("README.md");

    private interface Call {
        long answer();
    }

    private static final CandidateRanges x = new CandidateRanges();
    private static final List<String> lines = new ArrayList<>();
    private static int next = 0;
    private static int wrong = 0;

    private static void readExamples() throws IOException {
        boolean inside = false;
        for (String line : Files.readAllLines(README)) {
            if (line.startsWith("```")) {
                inside = line.equals("```java");
            } else if (inside) {
                lines.add(line);
            }
        }
    }

    private static void tellWrong(String what) {
        wrong++;
        System.out.println("wrong: " + what);
    }

    /** The next line of the examples: its code, without the slashes. */
    private static String takeLine(String code) {
        String line = next < lines.size() ? lines.get(next) : "";
        next++;
        int slashes = line.indexOf("//");
        String stands = (slashes < 0 ? line : line.substring(0, slashes)).strip();
        if (!stands.equals(code)) {
            tellWrong("README.md has '" + stands + "' where '" + code + "' is tested");
        }
        return slashes < 0 ? "" : line.substring(slashes + 2).strip();
    }

    private static int line(String code, Call call) {
        String[] told = takeLine(code).split(":", 2);
        long answer = call.answer();
        if (!told[0].equals(Long.toString(answer))) {
            tellWrong(code + " answers " + answer + ", README.md says '" + told[0] + "'");
        }
        return (int) answer;
    }

    private static void checkRange() {
        takeLine("CandidateRanges x = new CandidateRanges();");
        int tens = line("int tens = x.span(10, 100, 10);", () -> x.span(10, 100, 10));
        int byFour = line("int byFour = x.filter(1, 0, 0, 4);", () -> x.filter(1, 0, 0, 4));
        int kept = line("int kept = x.source(7, tens, 0, byFour, 0, 0);", () -> x.source(7, tens, 0, byFour, 0, 0));
        line("x.range(kept);", () -> x.range(kept));
        line("x.size();", x::size);
        line("x.at(1);", () -> x.at(1));
        line("x.place(60);", () -> x.place(60));
        line("x.draw(7);", () -> x.draw(7));
    }

    private static void checkBarred() {
        line("x.shelf(0, 1, 3);", () -> x.shelf(0, 1, 3));
        line("x.item(0, 2, 9);", () -> x.item(0, 2, 9));
        int above = line("int above = x.filter(3, 0, 0, 5);", () -> x.filter(3, 0, 0, 5));
        int few = line("int few = x.span(1, 4, 1);", () -> x.span(1, 4, 1));
        int found = line("int found = x.source(7, few, 0, above, 0, 0);", () -> x.source(7, few, 0, above, 0, 0));
        line("x.range(found);", () -> x.range(found));
        line("x.size();", x::size);
        line("x.barred();", x::barred);
        line("x.barredAt(0);", () -> x.barredAt(0));
        line("x.bar(0, 0);", () -> x.bar(0, 0));
        line("x.bar(0, 1);", () -> x.bar(0, 1));
        line("x.ask(above, 4);", () -> x.ask(above, 4));
    }

    public static void main(String[] args) throws IOException {
        readExamples();
        checkRange();
        checkBarred();
        if (next != lines.size()) {
            tellWrong("README.md has " + lines.size() + " lines of examples, " + next + " are tested");
        }
        System.out.println("ReadmeTests: " + lines.size() + " lines, " + wrong + " wrong");
        if (wrong != 0) {
            System.exit(1);
        }
    }
}
