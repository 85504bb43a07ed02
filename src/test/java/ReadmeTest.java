import java.io.IOException;
import java.lang.reflect.Method;
import java.lang.reflect.Modifier;
import java.nio.file.Files;
import java.nio.file.Path;
import java.util.ArrayList;
import java.util.List;
import java.util.Map;
import java.util.TreeMap;
import java.util.regex.Matcher;
import java.util.regex.Pattern;
import java.util.stream.Collectors;
import java.util.stream.Stream;

/** What README.md says of the class and of its tests is so. */
public final class ReadmeTest {
    private static final Check check = new Check();

    public static void main(String[] args) throws IOException {
        String readme = Files.readString(Path.of("README.md"));
        String source = Files.readString(Path.of("src/test/java/ReadmeTest.java"));
        check.is("the example", codeOf(between(source, "// As in README.md:\n", "// Up to here.\n")),
                codeOf(between(readme, "```java\n", "```\n")));
        theExampleAnswersAsItTells();
        check.is("the exceptions of each call, in their order", exceptionsTold(readme), exceptionsOfFace());
        check.is("the tests", testsTold(readme), testsThere());
        check.end();
    }

    private static void theExampleAnswersAsItTells() {
        // As in README.md:
        CloudHall hall = new CloudHall();
        int rack = hall.addRack(0, 50);            // aisle 0; each of its two breakers bears 50 watts
        int machine = hall.addMachine(rack, 8, 2); // 8 cores, 2 watts for each that is taken
        int volume = hall.store(1, 4);             // one copy of size 4, put onto the machine at once
        int job = hall.submit(0, 2, 3, 5, -1);     // tenant 0: 2 parts of 3 cores for 5 hours, no group
        hall.pass(1);                              // the job is placed as the hour ends
        char state = hall.jobState(job);           // 'r': it runs
        int drawn = hall.draw(rack, 0);            // 8: half of 4 watts and 6 cores of 2
        boolean isSafe = hall.isSafe();            // false: a machine that failed would lose the volume
        boolean isRefused = false;
        try {
            hall.turnOff(machine);
        } catch (UnsupportedOperationException refused) {
            isRefused = true;                      // it has the last copy: nothing has changed
        }
        int lost = hall.fail(machine);             // 3: two parts and one copy
        char last = hall.alarm(0);                 // 'l': a volume is lost
        int about = hall.alarmOf(0);               // 0: the number of that volume
        int cause = hall.causeOf(0);               // 1: the alarm ahead of it, 'f' for the machine
        // Up to here.
        check.is("its numbers", rack + " " + machine + " " + volume + " " + job, "0 0 0 0");
        check.is("behind an hour", state + " " + drawn + " " + isSafe + " " + isRefused, "r 8 false true");
        check.is("behind failing", lost + " " + last + " " + about + " " + cause + " " + hall.alarm(cause), "3 l 0 1 f");
    }

    private static String between(String text, String first, String last) {
        int start = text.indexOf(first) + first.length();
        return text.substring(start, text.indexOf(last, start));
    }

    private static List<String> codeOf(String text) {
        return text.lines().map(String::trim).filter(line -> !line.isEmpty()).collect(Collectors.toList());
    }

    /** By the rows of the table: the calls in the first column, what they throw in the second. */
    private static Map<String, List<String>> exceptionsTold(String readme) {
        Map<String, List<String>> told = new TreeMap<>();
        Matcher row = Pattern.compile("(?m)^\\| (`.*) \\| (.*) \\|$").matcher(between(readme, "## Exceptions", "## Tests"));
        while (row.find()) {
            for (String call : quotedIn(row.group(1))) {
                told.put(call, quotedIn(row.group(2)));
            }
        }
        return told;
    }

    private static List<String> quotedIn(String text) {
        List<String> all = new ArrayList<>();
        Matcher quoted = Pattern.compile("`(\\w+)`").matcher(text);
        while (quoted.find()) {
            all.add(quoted.group(1));
        }
        return all;
    }

    private static Map<String, List<String>> exceptionsOfFace() {
        Map<String, List<String>> all = new TreeMap<>();
        for (Method method : CloudHall.class.getDeclaredMethods()) {
            if (Modifier.isPublic(method.getModifiers())) {
                List<String> thrown = new ArrayList<>();
                for (Class<?> type : method.getExceptionTypes()) {
                    thrown.add(type.getSimpleName());
                }
                all.put(method.getName(), thrown);
            }
        }
        return all;
    }

    private static List<String> testsTold(String readme) {
        return quotedIn(readme.substring(readme.indexOf("| test |"))).stream()
                .filter(name -> name.endsWith("Test")).sorted().collect(Collectors.toList());
    }

    private static List<String> testsThere() throws IOException {
        try (Stream<Path> files = Files.list(Path.of("src/test/java"))) {
            return files.map(path -> path.getFileName().toString()).filter(name -> name.endsWith("Test.java"))
                    .map(name -> name.replace(".java", "")).sorted().collect(Collectors.toList());
        }
    }
}
