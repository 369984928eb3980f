import java.io.IOException;
import java.nio.charset.StandardCharsets;
import java.nio.file.DirectoryStream;
import java.nio.file.Files;
import java.nio.file.Path;
import java.util.regex.Matcher;
import java.util.regex.Pattern;

/** README.md tells the truth: its example answers as it says, and it names each test. */
public final class ReadmeTest {
    private static final Checks CHECKS = new Checks();

    public static void main(String[] args) throws IOException {
        String readme = Files.readString(Path.of("README.md"), StandardCharsets.UTF_8);
        exampleAnswersAsTold(readme);
        eachTestIsNamed(readme);
        CHECKS.end();
    }

    private static void exampleAnswersAsTold(String readme) {
        Matcher works = Pattern.compile("\"([^\"]+)\"\\.toCharArray").matcher(readme);
        CHECKS.same("README.md has works", true, works.find());
        SlideMills mill = new SlideMills();
        Mills.type(mill, works.group(1));
        Matcher calls = Pattern.compile("mill\\.(\\w+)\\(\\);\\s+// ([0-9.]+)( / ([0-9.]+))?").matcher(readme);
        int told = 0;
        while (calls.find()) {
            double due = Double.parseDouble(calls.group(2));
            due = calls.group(4) == null ? due : due / Double.parseDouble(calls.group(4));
            String name = calls.group(1);
            CHECKS.same("README.md: " + name, due, Checks.answer(() -> number(mill, name)));
            told++;
        }
        CHECKS.same("calls with an answer in README.md", 5, told);
    }

    private static double number(SlideMills mill, String name) throws ReflectiveOperationException {
        return ((Number) SlideMills.class.getMethod(name).invoke(mill)).doubleValue();
    }

    private static void eachTestIsNamed(String readme) throws IOException {
        try (DirectoryStream<Path> tests = Files.newDirectoryStream(Path.of("src/test/java"), "*Test.java")) {
            for (Path test : tests) {
                String name = test.getFileName().toString();
                CHECKS.same("README.md names " + name, true, readme.contains(name));
            }
        }
    }
}
