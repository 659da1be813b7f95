import java.util.ArrayList;
import java.util.List;

/**
 * The object under test. It keeps its calls, so that a twin can be brought to the same state and looked at without
 * spending any of the 512 calls that the document promises; a test that makes more is wrong itself.
 */
final class Desk {
    interface Call {
        long on(TimedRuns object);
    }

    private static final int CALLS = 512;

    private final TimedRuns object = new TimedRuns();
    private final List<Call> calls = new ArrayList<>();

    /** A new object with one job, of rank 0. */
    static Desk withJob(String text) {
        Desk x = new Desk();
        Checks.due("job of " + text, x.job(text, 0), 0);
        return x;
    }

    /** The same with some tasks that need nothing and have one try. */
    static Desk withTasks(String text, int tasks) {
        Desk x = withJob(text);
        x.tasks(0, tasks);
        return x;
    }

    static Desk withSixJobs(String text) {
        Desk x = new Desk();
        for (int job = 0; job < 6; job++) {
            Checks.due("job of " + text, x.job(text, 0), job);
        }
        return x;
    }

    long make(Call call) {
        calls.add(call);
        if (calls.size() > CALLS) {
            throw new AssertionError("more calls than are promised");
        }
        return call.on(object);
    }

    boolean type(long row) {
        return make(x -> x.type(row) ? 1 : 0) == 1;
    }

    /** Types a text of any length, which has to fit. */
    void type(String text) {
        for (int i = 0; i < text.length(); i += 8) {
            String part = text.substring(i, Math.min(text.length(), i + 8));
            Checks.due("type(\"" + part + "\")", type(Checks.row(part)), true);
        }
    }

    int job(int rank) {
        return (int) make(x -> x.job(rank));
    }

    int job(String text, int rank) {
        type(text);
        return job(rank);
    }

    int fault() {
        return (int) make(TimedRuns::fault);
    }

    void erase() {
        make(x -> {
            x.erase();
            return 0;
        });
    }

    int task(int job, int needs, int tries, int pause) {
        return (int) make(x -> x.task(job, needs, tries, pause));
    }

    void tasks(int job, int count) {
        for (int i = 0; i < count; i++) {
            task(job, 0, 1, 0);
        }
    }

    boolean slots(int n) {
        return make(x -> x.slots(n) ? 1 : 0) == 1;
    }

    boolean holds(int job, int minute) {
        return make(x -> x.holds(job, minute) ? 1 : 0) == 1;
    }

    int next(int job, int minute) {
        return (int) make(x -> x.next(job, minute));
    }

    int part(int minute, int part) {
        return (int) make(x -> x.part(minute, part));
    }

    int pass(int n) {
        return (int) make(x -> x.pass(n));
    }

    void set(int minute) {
        make(setting(minute));
    }

    static Call setting(int minute) {
        return x -> {
            x.set(minute);
            return 0;
        };
    }

    int end(int job, int task, boolean well) {
        return (int) make(x -> x.end(job, task, well));
    }

    int down(boolean down) {
        return (int) make(x -> x.down(down));
    }

    int now() {
        return (int) make(TimedRuns::now);
    }

    int state(int job, int task) {
        return (int) make(x -> x.state(job, task));
    }

    int count(int job, int what) {
        return (int) make(x -> x.count(job, what));
    }

    int entries() {
        return (int) make(TimedRuns::entries);
    }

    int entry(int k, int part) {
        return (int) make(x -> x.entry(k, part));
    }

    /** A new object to which the same calls were made. */
    Desk twin() {
        Desk twin = new Desk();
        for (Call call : calls) {
            Checks.answer(() -> twin.make(call));
        }
        return twin;
    }

    /** How many characters can still be typed. */
    int room() {
        Desk twin = twin();
        int room = 0;
        while (room <= 60 && twin.type('x')) {
            room++;
        }
        return room;
    }

    /** The states of a job's tasks, a digit for each. */
    String states(int job) {
        Desk twin = twin();
        StringBuilder all = new StringBuilder();
        int tasks = twin.count(job, 3);
        for (int task = 0; task < tasks; task++) {
            all.append(twin.state(job, task));
        }
        return all.toString();
    }

    /** The latest entries, the oldest of them first: kind@minute:job.task. */
    String log(int most) {
        return twin().tellLog(most);
    }

    String log() {
        return log(64);
    }

    private String tellLog(int most) {
        StringBuilder all = new StringBuilder();
        for (int k = Math.min(most, entries()) - 1; k >= 0; k--) {
            all.append(' ').append(entry(k, 0)).append('@').append(entry(k, 1)).append(':').append(entry(k, 2));
            int task = entry(k, 3);
            all.append(task == Checks.NONE ? "" : "." + task);
        }
        return all.toString().trim();
    }

    /** The call answers this, or throws what is named so, and changes nothing that can be seen now or later. */
    void same(String what, String answer, Call call) {
        Desk asked = twin();
        Checks.due(what, Checks.answer(() -> asked.make(call)), answer);
        Checks.due(what + ": what is seen then", asked.seen(), seen());
        Checks.due(what + ": what comes of it", asked.future(), future());
        Checks.due(what + ": room for text", asked.room(), room());
        Checks.answer(() -> make(call));
    }

    void index(String what, Call call) {
        same(what, Checks.INDEX, call);
    }

    void argument(String what, Call call) {
        same(what, Checks.ARGUMENT, call);
    }

    void state(String what, Call call) {
        same(what, Checks.STATE, call);
    }

    void unsupported(String what, Call call) {
        same(what, Checks.UNSUPPORTED, call);
    }

    private String seen() {
        Desk twin = twin();
        StringBuilder all = new StringBuilder();
        all.append(twin.now()).append(' ').append(twin.fault()).append(' ').append(twin.count(0, 4));
        for (int job = 0; job < 6; job++) {
            all.append("; ");
            for (int what = 0; what < 4; what++) {
                all.append(' ').append(twin.count(job, what));
            }
            for (int task = 0; task < 6; task++) {
                all.append(' ').append(twin.state(job, task));
            }
        }
        return all.append("; ").append(twin.entries()).append(' ').append(log(40)).toString();
    }

    /** What the hidden things do later: the text, the slots, what pauses, and when the desk went down. */
    private String future() {
        Desk twin = twin();
        StringBuilder all = new StringBuilder();
        Call[] first = {x -> x.job(1000), TimedRuns::fault, x -> x.next(0, 12345), x -> x.next(1, 12345),
            x -> x.down(false), x -> x.pass(1), x -> x.pass(1), x -> x.pass(30), x -> x.task(0, 0, 4, 7)};
        for (Call call : first) {
            all.append(Checks.answer(() -> twin.make(call))).append(' ');
        }
        twin.erase();
        int fresh = twin.count(5, 3) == Checks.NONE ? twin.job("* * * * *", 1000) : Checks.NONE;
        for (int task = 0; task < 6 && fresh != Checks.NONE; task++) {
            twin.task(fresh, 0, 1, 0);
        }
        for (int round = 0; round < 3; round++) {
            all.append(Checks.answer(() -> twin.make(x -> x.pass(1000)))).append(": ");
            for (int place = 0; place < 36; place++) {
                int job = place / 6;
                int task = place % 6;
                String ended = Checks.answer(() -> twin.make(x -> x.end(job, task, false)));
                all.append(ended.equals(Checks.INDEX) ? "" : job + "." + task + " " + ended + " ");
            }
        }
        return all.append("; ").append(twin.log(20)).toString();
    }
}
