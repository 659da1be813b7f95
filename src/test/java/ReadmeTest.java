import java.io.IOException;
import java.nio.charset.StandardCharsets;
import java.nio.file.Files;
import java.nio.file.Path;
import java.util.ArrayList;
import java.util.List;

/** README.md's example: the same calls answer what its comments tell. */
public final class ReadmeTest {
    private static final List<String> LEFT = new ArrayList<>();

    public static void main(String[] args) throws IOException {
        String readme = new String(Files.readAllBytes(Path.of("README.md")), StandardCharsets.UTF_8);
        String example = readme.split("```java\n")[1].split("```")[0];
        LEFT.addAll(List.of(example.split("\n")));
        makeTheExample();
        Checks.due("lines of the example that no call was made for", LEFT, List.of());
        Checks.close();
    }

    private static void makeTheExample() {
        TimedRuns desk = new TimedRuns();
        shown("TimedRuns desk = new TimedRuns();");
        shown("desk.type(0x2a202a202a2030L);", desk.type(0x2a202a202a2030L));
        shown("desk.type(0x2a20L);", desk.type(0x2a20L));
        int job = desk.job(3);
        shown("int job = desk.job(3);", job);
        int load = desk.task(job, 0, 2, 5);
        shown("int load = desk.task(job, 0, 2, 5);", load);
        int send = desk.task(job, 1, 1, 0);
        shown("int send = desk.task(job, 1, 1, 0);", send);
        shown("desk.next(job, 0);", desk.next(job, 0));
        shown("desk.pass(60);", desk.pass(60));
        shown("desk.end(job, load, true);", desk.end(job, load, true));
        shown("desk.pass(1);", desk.pass(1));
        Checks.due("send is running", desk.state(job, send), 3);
        shown("desk.down(true);", desk.down(true));
        shown("desk.pass(120);", desk.pass(120));
        shown("desk.down(false);", desk.down(false));
        Checks.due("load is running", desk.state(job, load), 3);
        shown("desk.entry(0, 0);", desk.entry(0, 0));
        shown("desk.entry(0, 1);", desk.entry(0, 1));
        shown("desk.type(0x39392030L);", desk.type(0x39392030L));
        shown("desk.job(0);", Checks.answer(() -> desk.job(0)));
        shown("desk.fault();", desk.fault());
        desk.erase();
        shown("desk.erase();");
        Checks.answer(() -> desk.job(0));
        Checks.due("the text is empty", desk.fault(), 0);
    }

    /** The next line of the example is this statement, and its comment begins with the answer. */
    private static void shown(String statement, Object answer) {
        String line = LEFT.isEmpty() ? "" : LEFT.remove(0);
        String told = line.replaceAll(" +// ", " // ").replaceAll("(// [^:]*):.*", "$1");
        Checks.due("the example's line", told, statement + " // " + answer);
    }

    private static void shown(String statement) {
        Checks.due("the example's line", LEFT.isEmpty() ? "" : LEFT.remove(0), statement);
    }
}
