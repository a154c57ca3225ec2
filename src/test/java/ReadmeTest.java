import java.io.IOException;
import java.lang.reflect.Method;
import java.nio.file.Files;
import java.nio.file.Path;
import java.util.ArrayList;
import java.util.LinkedHashMap;
import java.util.List;
import java.util.Map;
import java.util.regex.Matcher;
import java.util.regex.Pattern;
import java.util.stream.Stream;

/** What README.md says is so. It reads the project's files, so it is run from the project's own directory. */
public final class ReadmeTest {
    private static final Path README = Path.of("README.md");
    private static final Path TESTS = Path.of("src/test/java");
    private static final Path ITSELF = TESTS.resolve("ReadmeTest.java");
    private static final Pattern ANSWER = Pattern.compile("(?:int|long) (\\w+) = .*; +// (-?\\d+).*");

    public static void main(String[] args) throws IOException {
        List<String> example = between(README, "```java", "```");
        exampleIsTheOneRunHere(example);
        commentsTellTheAnswers(example);
        everyTestIsNamed();
        everyCallIsNamed();
        Check.end();
    }

    /** The README's example, line by line: the test holds that the two are one. */
    private static Map<String, Long> example() {
        // example begins
        OutlookOdds stock = new OutlookOdds();
        stock.age(0, 1000, 10, 0, 500);              // age 0: 1000 fish of weight 10, none ripe, half die a year
        stock.age(1, 500, 100, 100, 300);            // age 1: a tenth is ripe, three tenths die
        stock.age(2, 300, 400, 500, 200);
        stock.age(3, 200, 700, 900, 200);
        stock.age(4, 150, 900, 1000, 200);
        stock.age(5, 100, 1000, 1000, 300);          // age 5 and all that are older
        stock.young(1000);                           // come to age 0 a year: half to one and a half, as drawn
        stock.error(10, 1);                          // the mass is seen up to 10 hundredths wrong, and a year late
        stock.change(200);                           // the catch allowed changes by a fifth a year at most
        stock.mark(350000);

        int rule = stock.rule(200000, 500000, 300);  // 0: its number; it allows 0 below 200000, 30 % from 500000
        int fallen = stock.run(rule, 10, 16);        // 10 of the 16 seeds fell below the mark in some year

        long mass = stock.told(0, 4, 0);             // 330580: seed 0 in year 4
        long caught = stock.told(0, 4, 1);           // 90460
        long allowed = stock.told(0, 4, 2);          // 91987
        long seen = stock.told(0, 4, 3);             // 350777
        int odds = stock.below(4, 0);                // 3 of ..
        int of = stock.below(4, 1);                  // 16 seeds are below the mark in year 4
        long least = stock.rank(4, 0);               // 324970: the least mass of all seeds in year 4
        long most = stock.rank(4, 15);               // 422290: and the greatest
        long steady = stock.steady(0);               // 131750: what seed 0 caught, up and down from year to year
        long sum = stock.mean(0, 0);                 // 1522211 by ..
        long by = stock.mean(0, 1);                  // 16 is caught by a seed in a year
        long table = stock.table(9);                 // 15428870: all that is caught, had the rule a rate of 9 * 50
        int top = stock.top();                       // 9: and no other rate of the table catches more

        int before = stock.mark(500000);             // 350000: what the mark was
        int good = stock.recovers(0, 1);             // -1 (NONE): seed 0 is below 500000 in all years
        // example ends
        Map<String, Long> answers = new LinkedHashMap<>();
        answers.put("rule", (long) rule);
        answers.put("fallen", (long) fallen);
        answers.put("mass", mass);
        answers.put("caught", caught);
        answers.put("allowed", allowed);
        answers.put("seen", seen);
        answers.put("odds", (long) odds);
        answers.put("of", (long) of);
        answers.put("least", least);
        answers.put("most", most);
        answers.put("steady", steady);
        answers.put("sum", sum);
        answers.put("by", by);
        answers.put("table", table);
        answers.put("top", (long) top);
        answers.put("before", (long) before);
        answers.put("good", (long) good);
        return answers;
    }

    /** The lines behind the first that is the one mark and before the next that is the other, without indents. */
    private static List<String> between(Path file, String first, String last) throws IOException {
        List<String> lines = Files.readAllLines(file).stream().map(String::strip).toList();
        int from = lines.indexOf(first) + 1;
        int length = lines.subList(from, lines.size()).indexOf(last);
        Check.same(file + " has " + first + " and " + last, from > 0 && length > 0 ? 1 : 0, 1);
        return from > 0 && length > 0 ? lines.subList(from, from + length) : List.of();
    }

    private static void exampleIsTheOneRunHere(List<String> example) throws IOException {
        List<String> here = between(ITSELF, "// example begins", "// example ends");
        Check.same("the README's example", String.join("\n", example), String.join("\n", here));
    }

    private static void commentsTellTheAnswers(List<String> example) {
        Map<String, Long> told = new LinkedHashMap<>();
        for (String line : example) {
            Matcher answer = ANSWER.matcher(line);
            if (answer.matches()) {
                told.put(answer.group(1), Long.valueOf(answer.group(2)));
            }
        }
        Check.same("the README's answers", told.toString(), example().toString());
    }

    private static void everyTestIsNamed() throws IOException {
        String readme = Files.readString(README);
        List<String> unnamed = new ArrayList<>();
        try (Stream<Path> files = Files.list(TESTS)) {
            for (Path file : files.sorted().toList()) {
                String name = file.getFileName().toString().replace(".java", "");
                if (!readme.contains("`" + name + "`")) {
                    unnamed.add(name);
                }
            }
        }
        Check.same("tests that the README does not name", unnamed.toString(), "[]");
    }

    private static void everyCallIsNamed() throws IOException {
        String readme = Files.readString(README);
        for (Method call : OutlookOdds.class.getMethods()) {
            if (call.getDeclaringClass() == OutlookOdds.class) {
                int named = readme.contains("| `" + call.getName() + "(") ? 1 : 0;
                Check.same("the README names " + call.getName(), named, 1);
            }
        }
    }
}
