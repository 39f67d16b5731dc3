import java.io.File;
import java.io.IOException;
import java.lang.reflect.Method;
import java.lang.reflect.Modifier;
import java.nio.file.Files;
import java.nio.file.Path;
import java.util.ArrayList;
import java.util.List;

/** README.md: its example answers what it says, and it names every call and every test. */
public final class ReadmeTest {
    private static final Checks CHECKS = new Checks();
    private static final String TESTS = "src/test/java";
    private static final String BEGIN = "```java\n";
    private static final String END = "```\n";

    public static void main(String[] args) throws IOException {
        String readme = Files.readString(Path.of("README.md"));
        String code = exampleIn(readme);
        CHECKS.same("the answers that the example tells", told(code).toString(), answers().toString());
        exampleIsTheOneTested(code);
        namesEveryCall(readme);
        namesEveryTest(readme);
        CHECKS.finish();
    }

    /** The example of the README, line by line, and what it answers. */
    private static List<String> answers() {
        List<String> answers = new ArrayList<>();
        PicturedRecord r = new PicturedRecord();
        for (char c : "S9(5)V99".toCharArray()) {
            r.pic(c);
        }
        int price = r.field(1, 0);
        answers.add("" + price);
        for (char c : "$$,$$9.99CR".toCharArray()) {
            r.pic(c);
        }
        int shown = r.field(0, 16);
        answers.add("" + shown);
        answers.add("" + r.put(price, -123456, 2));
        answers.add("" + r.compute(0, price, price, price, 1));
        answers.add("" + r.value(price));
        answers.add("" + r.move(price, shown));
        CHECKS.same("the text", Records.text(r, 16, 11), "$2,469.12CR");
        answers.add("" + r.peek(16));
        answers.add("" + r.value(shown));
        answers.add("" + r.compute(2, price, price, price, 0));
        CHECKS.same("price stays", r.value(price), -246912);
        answers.add("" + r.sizeErrors());
        return answers;
    }

    private static String exampleIn(String readme) {
        int start = readme.indexOf(BEGIN);
        int end = readme.indexOf(END, start + BEGIN.length());
        CHECKS.same("there is an example", start >= 0 && end >= 0, true);
        return start < 0 || end < 0 ? "" : readme.substring(start + BEGIN.length(), end);
    }

    /** A comment of the example begins with the answer, up to a colon if more is said. */
    private static List<String> told(String code) {
        List<String> told = new ArrayList<>();
        for (String line : code.split("\n")) {
            if (line.contains("//")) {
                told.add(line.replaceFirst(".*?// *", "").replaceFirst(":.*", ""));
            }
        }
        return told;
    }

    /** Each line of the README's example stands in answers() too, for otherwise nothing tests it. */
    private static void exampleIsTheOneTested(String code) throws IOException {
        String tested = Files.readString(Path.of(TESTS, "ReadmeTest.java"));
        for (String line : code.split("\n")) {
            String call = line.replaceFirst("\\s*//.*", "").replaceFirst(";$", "").trim();
            CHECKS.same("the example's line " + call + " is tested", tested.contains(call), true);
        }
    }

    private static void namesEveryCall(String readme) {
        for (Method method : PicturedRecord.class.getDeclaredMethods()) {
            if (Modifier.isPublic(method.getModifiers())) {
                String row = "\n| `" + method.getName() + "(";
                CHECKS.same("a row for " + method.getName(), readme.contains(row), true);
            }
        }
        CHECKS.same("NONE", readme.contains("PicturedRecord.NONE"), true);
        CHECKS.same("how to run the tests", readme.contains(".ci/run"), true);
    }

    private static void namesEveryTest(String readme) {
        String[] files = new File(TESTS).list();
        CHECKS.same("the tests are found", files != null, true);
        if (files == null) {
            return;
        }
        for (String file : files) {
            if (file.endsWith("Test.java")) {
                String name = file.substring(0, file.length() - ".java".length());
                CHECKS.same("a row for " + name, readme.contains("\n| " + name + " |"), true);
            }
        }
    }
}
