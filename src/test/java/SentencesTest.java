import java.io.File;
import java.io.IOException;
import java.lang.reflect.Method;
import java.nio.file.Files;
import java.nio.file.Path;
import java.util.ArrayList;
import java.util.Arrays;
import java.util.List;

/** What the tests of the edges say stands in the document, and all that a promise throws is said by one of them. */
public final class SentencesTest {
    private static final Path DOCUMENT = Path.of("..", "shared", "DOC.md");

    public static void main(String[] args) throws IOException, ClassNotFoundException {
        List<Says> said = said();
        Check.same("the tests of the edges", true, () -> said.size() > 100);
        if (Files.exists(DOCUMENT)) {
            Document document = Document.read(DOCUMENT);
            standsInTheDocument(document, said);
            allThatIsThrown(document, said);
        } else {
            System.out.println("there is no " + DOCUMENT + " to compare with");
        }
        Check.end();
    }

    private static List<Says> said() throws ClassNotFoundException {
        List<Says> said = new ArrayList<>();
        String[] files = new File("src/test/java").list((folder, name) -> name.endsWith("EdgesTest.java"));
        for (String file : files == null ? new String[0] : files) {
            for (Method test : Edges.testsOf(Class.forName(file.substring(0, file.length() - 5)))) {
                Says says = test.getAnnotation(Says.class);
                if (says != null) {
                    said.add(says);
                }
            }
        }
        return said;
    }

    private static void standsInTheDocument(Document document, List<Says> said) {
        for (Says says : said) {
            for (String words : says.words()) {
                Check.same(says.at() + " says " + words, true, () -> document.says(says.at(), words));
            }
        }
    }

    private static void allThatIsThrown(Document document, List<Says> said) {
        document.parts().forEach((part, lines) -> {
            for (String line : lines.split("\n")) {
                if (line.startsWith("Throws ")) {
                    Check.same(part + ", " + line + ": what no test says", "", left(part, line, said));
                }
            }
        });
    }

    // What is left of a line without all that tests say of a single case, and without what joins these cases.
    private static String left(String part, String line, List<Says> said) {
        String cases = line.substring(line.indexOf(" if ") + 1);
        boolean[] covered = new boolean[cases.length()];
        for (Says says : said) {
            for (String words : says.words()) {
                int at = says.at().equals(part) && !words.startsWith("Throws") ? cases.indexOf(words) : -1;
                if (at >= 0) {
                    Arrays.fill(covered, at, at + words.length(), true);
                }
            }
        }
        StringBuilder left = new StringBuilder();
        for (int i = 0; i < covered.length; i++) {
            left.append(covered[i] ? "" : String.valueOf(cases.charAt(i)));
        }
        return left.toString().replaceAll("\\b(if|or)\\b", "").replace(",", "").trim();
    }
}
