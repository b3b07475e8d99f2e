import java.io.IOException;
import java.nio.file.Files;
import java.nio.file.Path;
import java.util.ArrayList;
import java.util.List;
import java.util.Set;
import java.util.TreeSet;
import java.util.regex.Matcher;
import java.util.regex.Pattern;

/** That what README.md tells of the class is so: its example, its tables of calls and of answers, its tests. */
public final class ReadmeTest {
    private static final Path README = Path.of("README.md");
    private static final Path HERE = Path.of("src/test/java/ReadmeTest.java");

    private ReadmeTest() {
    }

    public static void main(String[] args) throws IOException {
        String readme = Files.readString(README);
        example();
        exampleIsTheReadmes(readme);
        everyCallIsTold(readme);
        everyAnswerIsTold(readme);
        everyTestIsTold(readme);
        Check.finish("ReadmeTest");
    }

    private static void example() {
        // example begins
        MeasuredVault vault = new MeasuredVault(5);
        vault.feed(0x61626300, 0, 0, 0, 0); // twenty bytes come to the tape
        vault.end(3);                       // the first three stay: "abc"
        vault.open(0);                      // a session ..
        vault.policyState(0, 3);            // .. that asks for registers 0 and 1 as they are
        int n = vault.seal(0);              // OUT is a blob of n bytes
        vault.back();                       // OUT comes behind the tape
        int object = vault.load();          // the blob becomes an object
        int size = vault.unseal(object, 0); // OUT is "abc" again, and the session is closed
        int first = vault.octet(0);         // 97
        vault.open(0);                      // the session once more ..
        vault.policyState(0, 3);
        vault.extend(1);                    // .. but then the machine is another one
        int other = vault.unseal(object, 0); // MeasuredVault.WRONG
        // example ends
        Check.due("the example's blob", 104, n);
        Check.due("the example's object", 0, object);
        Check.due("the example's data", 3, size);
        Check.due("the example's first byte", 'a', first);
        Check.due("the example's second byte", 'b', vault.octet(1));
        Check.due("the example's last byte", 'c', vault.octet(2));
        Check.due("the example's other machine", MeasuredVault.WRONG, other);
    }

    private static void exampleIsTheReadmes(String readme) throws IOException {
        List<String> ran = between(Files.readString(HERE), "// example begins\n", "// example ends");
        List<String> told = between(readme, "```java\n", "```");
        Check.holds("README's example is the one that was run: " + told, !ran.isEmpty() && ran.equals(told));
    }

    /** The first part of a text between two marks, line by line, without the gaps at their ends. */
    private static List<String> between(String text, String from, String to) {
        List<String> lines = new ArrayList<>();
        int start = text.indexOf(from);
        int end = start < 0 ? -1 : text.indexOf(to, start + from.length());
        if (end >= 0) {
            text.substring(start + from.length(), end).lines().map(String::strip).filter(line -> !line.isEmpty())
                .forEach(lines::add);
        }
        return lines;
    }

    private static void everyCallIsTold(String readme) {
        Set<String> told = codes(section(readme, "The calls"));
        for (int i = 0; i < Answers.calls(); i++) {
            Check.holds("README tells what " + Answers.call(i) + " does", told.contains(Answers.call(i)));
        }
    }

    /** A row for each: its name, its number, what it means, and by which calls. */
    private static void everyAnswerIsTold(String readme) {
        String section = section(readme, "Answers below 0");
        for (String name : Answers.NAMES) {
            Matcher row = Pattern.compile("(?m)^\\| `" + name + "` \\| (-\\d) \\| ([^|]+) \\| ([^|]+) \\|$")
                .matcher(section);
            boolean found = row.find();
            Check.holds("README has a row for " + name, found);
            if (found) {
                Check.due("README's number of " + name, Answers.number(name), Integer.parseInt(row.group(1)));
                Check.holds("README tells what " + name + " means", row.group(2).length() > 20);
                Check.holds("README tells which calls answer " + name + ", " + Answers.callsThatAnswer(name),
                    codes(row.group(3)).equals(Answers.callsThatAnswer(name)));
            }
        }
    }

    private static void everyTestIsTold(String readme) throws IOException {
        String section = section(readme, "Tests");
        Check.holds("README tells how tests are run", section.contains(".ci/run"));
        try (var files = Files.list(HERE.getParent())) {
            files.map(file -> file.getFileName().toString().replace(".java", ""))
                .forEach(name -> Check.holds("README tells of " + name, section.matches("(?s).*\\b" + name + "\\b.*")));
        }
    }

    private static String section(String readme, String heading) {
        for (String section : readme.split("(?m)^## ")) {
            if (section.startsWith(heading + "\n")) {
                return section;
            }
        }
        Check.holds("README has a section: " + heading, false);
        return "";
    }

    private static Set<String> codes(String text) {
        Set<String> found = new TreeSet<>();
        Matcher code = Pattern.compile("`(\\w+)`").matcher(text);
        while (code.find()) {
            found.add(code.group(1));
        }
        return found;
    }
}
