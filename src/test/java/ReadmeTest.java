import java.nio.file.Files;
import java.nio.file.Path;
import java.util.ArrayList;
import java.util.List;

/** The example in README.md, line by line: its calls are made here, and answer what its comments say. */
public final class ReadmeTest {
    private static final List<String> LINES = new ArrayList<>();
    private static int line = 0;
    private static int wrong = 0;

    public static void main(String[] args) throws Exception {
        readExample();
        example();
        if (line != LINES.size()) {
            wrong++;
            System.out.println("README.md shows " + LINES.size() + " lines, tested are " + line);
        }
        System.out.println(wrong == 0 ? line + " lines of README.md are right" : wrong + " lines are not right");
        if (wrong != 0) {
            System.exit(1);
        }
    }

    private static void readExample() throws Exception {
        boolean inside = false;
        for (String text : Files.readAllLines(Path.of("README.md"))) {
            if (text.startsWith("```")) {
                inside = text.equals("```java");
            } else if (inside) {
                LINES.add(text);
            }
        }
    }

    private static void example() {
        DaySwaps day = new DaySwaps(2);
        shows("DaySwaps day = new DaySwaps(2);", "vehicles 0 and 1");
        int a = day.stop(0, 1, 100);
        shows("int a = day.stop(0, 1, 100);", a);
        int b = day.stop(0, 2, 200);
        shows("int b = day.stop(0, 2, 200);", b);
        int c = day.stop(1, 3, 300);
        shows("int c = day.stop(1, 3, 300);", c);
        shows("day.way(1, 2, 45);", day.way(1, 2, 45));
        shows("day.cost();", day.cost());
        shows("day.copy();", day.copy());
        shows("day.out(0, 1);", day.out(0, 1));
        shows("day.run();", day.run());
        shows("day.moved(0);", day.moved(0));
        shows("day.vehicleOf(b);", day.vehicleOf(b));
        shows("day.compare(0, 0);", day.compare(0, 0));
        shows("day.send();", day.send());
        shows("day.send();", day.send());
        shows("day.undo();", day.undo());
        shows("day.vehicleOf(b);", day.vehicleOf(b));
        shows("day.freeze(b, true);", day.freeze(b, true));
        shows("day.run();", day.run());
        shows("day.freeze(b, false);", day.freeze(b, false));
        shows("day.run();", day.run());
        shows("day.next();", day.next());
        shows("day.place(b);", day.place(b));
        shows("day.place(a);", day.place(a));
    }

    /** The next line is this call, and its comment begins with this answer, to its end or to a comma. */
    private static void shows(String call, Object answer) {
        String text = line < LINES.size() ? LINES.get(line) : "";
        line++;
        int comment = text.indexOf("//");
        String code = comment < 0 ? text : text.substring(0, comment);
        String said = comment < 0 ? "" : text.substring(comment + 2).strip();
        boolean isSaid = said.equals(answer.toString()) || said.startsWith(answer + ",");
        if (!code.strip().equals(call) || !isSaid) {
            wrong++;
            System.out.println("README.md: " + text.strip() + ": the call is " + call + ", its answer " + answer);
        }
    }
}
