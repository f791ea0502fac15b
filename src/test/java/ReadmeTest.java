import java.io.IOException;
import java.lang.reflect.Method;
import java.lang.reflect.Modifier;
import java.nio.file.Files;
import java.nio.file.Path;
import java.util.ArrayList;
import java.util.Iterator;
import java.util.List;

/** README.md tells of every method, and its example's answers are those of the class. */
public final class ReadmeTest {
    private static final Check check = new Check("readme");

    public static void main(String[] args) throws IOException {
        List<String> readme = Files.readAllLines(Path.of("README.md"));
        example(exampleOf(readme).iterator());
        everyMethod(readme);
        check.finish();
    }

    private static List<String> exampleOf(List<String> readme) {
        int from = readme.indexOf("```java") + 1;
        List<String> rest = readme.subList(from, readme.size());
        return new ArrayList<>(rest.subList(0, rest.indexOf("```")));
    }

    private static void example(Iterator<String> lines) {
        Generations group = new Generations(3, 0);
        code(lines, "Generations group = new Generations(3, 0);");
        line(lines, "group.catalogue(9998);", group.catalogue(9998));
        line(lines, "group.catalogue(9999);", group.catalogue(9999));
        int job = group.job();
        line(lines, "int job = group.job();", job);
        line(lines, "group.relative(job, 0);", group.relative(job, 0));
        line(lines, "group.relative(job, -1);", group.relative(job, -1));
        int made = group.make(job, 1);
        line(lines, "int made = group.make(job, 1);", made);
        line(lines, "group.state(made);", group.state(made));
        line(lines, "group.end(job, made, true);", group.end(job, made, true));
        line(lines, "group.restart(job, 1);", group.restart(job, 1));
        line(lines, "group.end(job, made, false);", group.end(job, made, false));
        line(lines, "group.list(2);", group.list(2));
        line(lines, "group.relative(job, 0);", group.relative(job, 0));
        line(lines, "group.catalogue(2);", group.catalogue(2));
        line(lines, "group.dropped(0);", group.dropped(0));
        line(lines, "group.state(9998);", group.state(9998));
        line(lines, "group.reclaim(made);", group.reclaim(made));
        line(lines, "group.relative(job, -1);", group.relative(job, -1));
        check.due("the example has no line more", 0, lines.hasNext() ? 1 : 0);
    }

    /** The example's next line is this code; answers what its comment says. */
    private static String code(Iterator<String> lines, String code) {
        String line = lines.hasNext() ? lines.next() : "";
        int comment = line.indexOf("//");
        boolean same = comment > 0 && line.substring(0, comment).trim().equals(code);
        check.due("the line \"" + line + "\" is " + code, 1, same ? 1 : 0);
        return comment < 0 ? "" : line.substring(comment + 2).trim();
    }

    private static void line(Iterator<String> lines, String code, int answer) {
        String told = code(lines, code);
        check.due(code + " is told with " + answer + ": " + told, 1, told.startsWith(answer + ":") ? 1 : 0);
    }

    private static void everyMethod(List<String> readme) {
        for (Method method : Generations.class.getDeclaredMethods()) {
            if (Modifier.isPublic(method.getModifiers())) {
                String row = "| `" + method.getName() + "(";
                check.due(row + " is told of", 1, (int) readme.stream().filter(line -> line.startsWith(row)).count());
            }
        }
    }
}
