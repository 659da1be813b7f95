import java.time.LocalDateTime;
import java.util.ArrayList;
import java.util.List;
import java.util.Random;
import java.util.TreeSet;
import java.util.regex.Matcher;
import java.util.regex.Pattern;

/** Long runs of calls, each answered by the class and by a model written another way from the document. */
public final class ModelTest {
    /** What later calls answer is free. */
    private static final int CALLS = 512;
    private static final int MOST_CALLS_AT_ONCE = 12;
    private static final int ENTRY_CALLS = 64 * 4;

    public static void main(String[] args) {
        // The same seeds always, so that a wrong run can be seen again.
        for (int seed = 1; seed <= 600; seed++) {
            new Run(seed).make();
        }
        faultsOfManyTexts();
        Checks.close();
    }

    private static void faultsOfManyTexts() {
        Random luck = new Random(7);
        for (int i = 0; i < 60000; i++) {
            String text = Texts.some(luck);
            if (text.length() > 60) {
                continue;
            }
            TimedRuns x = new TimedRuns();
            for (char sign : text.toCharArray()) {
                x.type(sign);
            }
            int want = Texts.fault(text);
            Checks.due("job of \"" + text + "\"", Checks.answer(() -> x.job(0)), want == -1 ? "0" : Checks.ARGUMENT);
            Checks.due("fault of \"" + text + "\"", x.fault(), want);
        }
    }

    /** Texts that are expressions or nearly so, and their faults by patterns. */
    private static final class Texts {
        private static final String ITEM = "(?:\\*(?:/\\d\\d?)?|\\d\\d?(?:-\\d\\d?(?:/\\d\\d?)?)?)";
        private static final String FIELD = ITEM + "(?:," + ITEM + ")*";
        private static final Pattern WHOLE = Pattern.compile(FIELD + "(?: " + FIELD + "){4}");
        private static final Pattern NUMBER = Pattern.compile("\\d\\d?");
        private static final int[] LOW = {0, 0, 1, 1, 0};
        private static final int[] HIGH = {59, 23, 31, 12, 7};

        static int fault(String text) {
            int form = faultOfForm(text);
            int field = 0;
            int seen = 0;
            int before = 0;
            Matcher numbers = NUMBER.matcher(text);
            for (int from = 0; numbers.find(from) && (form == -1 || numbers.start() < form); from = numbers.end()) {
                int at = numbers.start();
                for (; seen < at; seen++) {
                    field += text.charAt(seen) == ' ' ? 1 : 0;
                }
                int number = Integer.parseInt(numbers.group());
                char sign = at == 0 ? ' ' : text.charAt(at - 1);
                int low = sign == '/' ? 1 : sign == '-' ? before : LOW[field];
                int high = sign == '/' ? 99 : HIGH[field];
                if (number < low || number > high) {
                    return at;
                }
                before = number;
            }
            return form;
        }

        /** The place behind the longest beginning that can be gone on with to an expression's form. */
        private static int faultOfForm(String text) {
            for (int end = 0; end <= text.length(); end++) {
                Matcher m = WHOLE.matcher(text.substring(0, end));
                boolean whole = m.matches();
                if (end == text.length()) {
                    return whole ? -1 : m.hitEnd() ? end : end - 1;
                }
                if (!whole && !m.hitEnd()) {
                    return end - 1;
                }
            }
            return -1;
        }

        static String some(Random luck) {
            StringBuilder text = new StringBuilder();
            for (int field = 0; field < 5; field++) {
                text.append(field > 0 ? " " : "").append(field(luck, field));
            }
            for (int changes = luck.nextInt(3); changes > 0; changes--) {
                int at = luck.nextInt(text.length() + 1);
                char sign = " *,-/0123456789a".charAt(luck.nextInt(16));
                int way = luck.nextInt(4);
                if (way == 0) {
                    text.insert(at, sign);
                } else if (way == 1 && at < text.length()) {
                    text.setCharAt(at, sign);
                } else if (way == 2 && at < text.length()) {
                    text.deleteCharAt(at);
                } else if (way == 3 && luck.nextInt(4) == 0) {
                    text.setLength(at);
                }
            }
            return text.toString();
        }

        private static String field(Random luck, int field) {
            StringBuilder text = new StringBuilder();
            for (int items = luck.nextInt(3) / 2; items >= 0; items--) {
                int least = number(luck, field);
                int most = number(luck, field);
                switch (luck.nextInt(5)) {
                    case 0:
                        text.append(digits(luck, least));
                        break;
                    case 1:
                        text.append(digits(luck, Math.min(least, most))).append('-')
                            .append(digits(luck, Math.max(least, most)));
                        break;
                    case 2:
                        text.append(digits(luck, Math.min(least, most))).append('-')
                            .append(digits(luck, Math.max(least, most))).append('/')
                            .append(digits(luck, 1 + luck.nextInt(9)));
                        break;
                    case 3:
                        text.append("*/").append(digits(luck, 1 + luck.nextInt(luck.nextInt(5) == 0 ? 99 : 7)));
                        break;
                    default:
                        text.append('*');
                }
                text.append(items > 0 ? "," : "");
            }
            // A number out of the bounds now and then.
            return luck.nextInt(40) == 0 ? digits(luck, luck.nextInt(100)) : text.toString();
        }

        private static int number(Random luck, int field) {
            return LOW[field] + luck.nextInt(HIGH[field] - LOW[field] + 1);
        }

        private static String digits(Random luck, int number) {
            return number < 10 && luck.nextInt(4) == 0 ? "0" + number : "" + number;
        }

        /** The numbers of a field of an expression. */
        static TreeSet<Integer> numbers(String field, int which) {
            TreeSet<Integer> all = new TreeSet<>();
            for (String item : field.split(",")) {
                String[] parts = item.split("/");
                String[] ends = parts[0].split("-");
                int least = ends[0].equals("*") ? LOW[which] : Integer.parseInt(ends[0]);
                int most = ends[0].equals("*") ? HIGH[which] : Integer.parseInt(ends[ends.length - 1]);
                int step = parts.length > 1 ? Integer.parseInt(parts[1]) : 1;
                for (int n = least; n <= most; n += step) {
                    all.add(n);
                }
            }
            if (which == 4 && all.contains(7)) {
                all.add(0);
            }
            return all;
        }
    }

    private static final class ModelTask {
        int needs;
        int tries;
        int pause;
        int state = 0;
        int failures = 0;
        int until = 0;
    }

    private static final class ModelJob {
        int rank;
        List<TreeSet<Integer>> fields = new ArrayList<>();
        boolean free;
        List<ModelTask> tasks = new ArrayList<>();
        boolean underWay = false;
        int begun = 0;
        int missed = 0;

        boolean holds(int minute) {
            if (!fields.get(0).contains(minute % 60) || !fields.get(1).contains(minute / 60 % 24)) {
                return false;
            }
            LocalDateTime then = LocalDateTime.of(2000, 1, 1, 0, 0).plusMinutes(minute);
            boolean day = fields.get(2).contains(then.getDayOfMonth());
            boolean weekday = fields.get(4).contains(then.getDayOfWeek().getValue() % 7);
            return fields.get(3).contains(then.getMonthValue()) && (free ? day && weekday : day || weekday);
        }
    }

    /** The model of the desk; its calls answer as the document says, exceptions by their names. */
    private static final class Model {
        String text = "";
        int fault = -1;
        int now = 0;
        int slots = 2;
        boolean down = false;
        int fall = 0;
        List<ModelJob> jobs = new ArrayList<>();
        List<int[]> log = new ArrayList<>();

        String job(int rank) {
            if (jobs.size() == 6) {
                return Checks.UNSUPPORTED;
            }
            fault = Texts.fault(text);
            if (fault != -1) {
                return Checks.ARGUMENT;
            }
            ModelJob made = new ModelJob();
            made.rank = rank;
            String[] fields = text.split(" ");
            for (int which = 0; which < 5; which++) {
                made.fields.add(Texts.numbers(fields[which], which));
            }
            made.free = fields[2].startsWith("*") || fields[4].startsWith("*");
            jobs.add(made);
            text = "";
            return "" + (jobs.size() - 1);
        }

        String task(int job, int needs, int tries, int pause) {
            if (job < 0 || job >= jobs.size()) {
                return Checks.INDEX;
            }
            ModelJob owner = jobs.get(job);
            int count = owner.tasks.size();
            if (count == 6 || owner.underWay) {
                return Checks.UNSUPPORTED;
            }
            if (needs < 0 || needs >= 1 << count || tries < 1 || tries > 4 || pause < 0 || pause > 1000) {
                return Checks.ARGUMENT;
            }
            ModelTask made = new ModelTask();
            made.needs = needs;
            made.tries = tries;
            made.pause = pause;
            owner.tasks.add(made);
            return "" + count;
        }

        String pass(int n) {
            if (n < 1 || n > 5000) {
                return Checks.ARGUMENT;
            }
            if (now + n >= Checks.LIMIT) {
                return Checks.STATE;
            }
            int started = 0;
            for (int i = 0; i < n; i++) {
                now++;
                if (!down) {
                    for (ModelJob job : jobs) {
                        if (job.holds(now)) {
                            fire(job);
                        }
                    }
                    started += start();
                }
            }
            return "" + started;
        }

        String set(int minute) {
            if (down || jobs.stream().anyMatch(j -> j.underWay)) {
                return Checks.STATE;
            }
            if (minute < now || minute >= Checks.LIMIT) {
                return Checks.ARGUMENT;
            }
            now = minute;
            return "0";
        }

        String end(int job, int task, boolean well) {
            if (state(job, task) == -1) {
                return Checks.INDEX;
            }
            if (down || state(job, task) != 3) {
                return Checks.STATE;
            }
            endTask(jobs.get(job), task, well);
            return "" + state(job, task);
        }

        String down(boolean way) {
            if (way == down) {
                return Checks.STATE;
            }
            down = way;
            if (way) {
                fall = now;
                return "0";
            }
            for (ModelJob job : jobs) {
                for (int task = 0; task < job.tasks.size(); task++) {
                    if (job.tasks.get(task).state == 3) {
                        endTask(job, task, false);
                    }
                }
            }
            for (ModelJob job : jobs) {
                boolean held = false;
                for (int minute = fall + 1; minute <= now && !held; minute++) {
                    held = job.holds(minute);
                }
                if (held) {
                    fire(job);
                }
            }
            return "" + start();
        }

        int state(int job, int task) {
            boolean there = job >= 0 && job < jobs.size() && task >= 0 && task < jobs.get(job).tasks.size();
            return there ? jobs.get(job).tasks.get(task).state : -1;
        }

        int count(int job, int what) {
            if (what == 4) {
                return running();
            }
            if (job < 0 || job >= jobs.size() || what < 0 || what > 4) {
                return -1;
            }
            ModelJob j = jobs.get(job);
            return new int[] {j.begun, j.missed, j.underWay ? 1 : 0, j.tasks.size()}[what];
        }

        String entry(int k, int part) {
            if (k < 0 || k > 63 || k >= log.size() || part < 0 || part > 3) {
                return Checks.INDEX;
            }
            return "" + log.get(log.size() - 1 - k)[part];
        }

        private int running() {
            int running = 0;
            for (ModelJob job : jobs) {
                running += (int) job.tasks.stream().filter(t -> t.state == 3).count();
            }
            return running;
        }

        private void tell(int kind, ModelJob job, int task) {
            log.add(new int[] {kind, now, jobs.indexOf(job), task});
        }

        private void fire(ModelJob job) {
            if (job.underWay) {
                job.missed++;
                tell(2, job, -1);
                return;
            }
            job.begun++;
            tell(1, job, -1);
            for (ModelTask task : job.tasks) {
                task.state = 1;
                task.failures = 0;
            }
            job.underWay = !job.tasks.isEmpty();
            if (!job.underWay) {
                tell(8, job, -1);
            }
        }

        private int start() {
            int started = 0;
            while (running() < slots) {
                ModelJob best = null;
                int bestTask = -1;
                for (ModelJob job : jobs) {
                    for (int task = job.tasks.size() - 1; task >= 0; task--) {
                        boolean better = best == null || job.rank > best.rank || job == best;
                        if (better && ready(job, job.tasks.get(task))) {
                            best = job;
                            bestTask = task;
                        }
                    }
                }
                if (best == null) {
                    return started;
                }
                best.tasks.get(bestTask).state = 3;
                tell(3, best, bestTask);
                started++;
            }
            return started;
        }

        private boolean ready(ModelJob job, ModelTask task) {
            for (int other = 0; other < job.tasks.size(); other++) {
                if ((task.needs >> other) % 2 == 1 && job.tasks.get(other).state != 4) {
                    return false;
                }
            }
            return task.state == 1 || task.state == 2 && now >= task.until;
        }

        private void endTask(ModelJob job, int number, boolean well) {
            ModelTask task = job.tasks.get(number);
            if (well) {
                task.state = 4;
                tell(4, job, number);
            } else {
                task.failures++;
                if (task.failures < task.tries) {
                    task.state = 2;
                    task.until = now + task.pause * new int[] {1, 2, 4}[task.failures - 1];
                    tell(5, job, number);
                } else {
                    task.state = 5;
                    tell(6, job, number);
                    leaveOut(job);
                }
            }
            if (job.tasks.stream().allMatch(t -> t.state >= 4)) {
                job.underWay = false;
                tell(8, job, -1);
            }
        }

        private void leaveOut(ModelJob job) {
            for (int number = 0; number < job.tasks.size(); number++) {
                ModelTask task = job.tasks.get(number);
                for (int other = 0; other < number; other++) {
                    boolean lost = job.tasks.get(other).state >= 5 && (task.needs >> other) % 2 == 1;
                    if (lost && task.state == 1) {
                        task.state = 6;
                        tell(7, job, number);
                    }
                }
            }
        }
    }

    /** One run of calls on a new object and a new model. */
    private static final class Run {
        private static final String[] OFTEN = {"* * * * *", "*/2 * * * *", "*/7 * * * *", "3-58/5 * * * *",
            "0 * * * *", "10,20,21 */2 * * *", "0 3 * * 1-5", "30 12 1,15 * 0", "*/9 * */2 * 2-7/3", "1 1 29 2 *"};
        private final int seed;
        private final Random luck;
        private final TimedRuns x = new TimedRuns();
        private final Model model = new Model();
        private int call = 0;

        Run(int seed) {
            this.seed = seed;
            this.luck = new Random(seed);
        }

        private void due(String what, Checks.Call got, String want) {
            call++;
            Checks.due("seed " + seed + ", call " + call + ": " + what, Checks.answer(got), want);
        }

        private void due(String what, Checks.Call got, long want) {
            due(what, got, Long.toString(want));
        }

        void make() {
            for (int job = luck.nextInt(5); job > 0; job--) {
                makeJob(OFTEN[luck.nextInt(OFTEN.length)]);
                for (int task = luck.nextInt(7); task > 0; task--) {
                    makeTask(model.jobs.size() - 1);
                }
            }
            while (call < CALLS - MOST_CALLS_AT_ONCE - ENTRY_CALLS) {
                makeCall();
            }
            for (int k = 0; k < 64; k++) {
                for (int part = 0; part < 4; part++) {
                    int back = k;
                    int which = part;
                    due("entry(" + k + ", " + part + ")", () -> x.entry(back, which), model.entry(k, part));
                }
            }
        }

        private void makeJob(String text) {
            if (model.text.length() + text.length() <= 60) {
                for (int i = 0; i < text.length(); i += 8) {
                    String part = text.substring(i, Math.min(text.length(), i + 8));
                    due("type(" + part + ")", () -> x.type(Checks.row(part)) ? 1 : 0, 1);
                    model.text += part;
                }
            }
            int rank = luck.nextInt(5) - 2;
            due("job(" + rank + ")", () -> x.job(rank), model.job(rank));
            due("fault()", () -> x.fault(), model.fault);
            if (!model.text.isEmpty()) {
                call++;
                x.erase();
                model.text = "";
            }
        }

        private void makeTask(int job) {
            int count = job >= 0 && job < model.jobs.size() ? model.jobs.get(job).tasks.size() : 0;
            int needs = luck.nextInt(1 << count) & luck.nextInt(1 << count);
            needs = luck.nextInt(20) == 0 ? luck.nextInt(80) - 8 : needs;
            int all = needs;
            int tries = luck.nextInt(20) == 0 ? luck.nextInt(8) - 1 : 1 + luck.nextInt(4);
            int pause = luck.nextInt(10) == 0 ? luck.nextInt(1200) - 50 : luck.nextInt(6);
            due("task(" + job + ", " + needs + ", " + tries + ", " + pause + ")", () -> x.task(job, all, tries, pause),
                model.task(job, needs, tries, pause));
        }

        private void makeCall() {
            int job = luck.nextInt(15) == 0 ? luck.nextInt(9) - 1 : luck.nextInt(Math.max(1, model.jobs.size()));
            int task = luck.nextInt(7);
            switch (luck.nextInt(30)) {
                case 0:
                    makeJob(luck.nextInt(3) == 0 ? Texts.some(luck) : OFTEN[luck.nextInt(OFTEN.length)]);
                    break;
                case 1:
                    makeTask(job);
                    break;
                case 2:
                    int slots = luck.nextInt(9) - 1;
                    due("slots(" + slots + ")", () -> x.slots(slots) ? 1 : 0, slots >= 1 && slots <= 6 ? 1 : 0);
                    model.slots = slots >= 1 && slots <= 6 ? slots : model.slots;
                    break;
                case 3:
                    makeMinuteCall(job);
                    break;
                case 4:
                    int minute = luck.nextInt(4) == 0 ? luck.nextInt(Checks.LIMIT) : model.now + luck.nextInt(3000) - 20;
                    due("set(" + minute + ")", () -> {
                        x.set(minute);
                        return 0;
                    }, model.set(minute));
                    break;
                case 5:
                    boolean way = luck.nextInt(5) == 0 ? model.down : !model.down;
                    due("down(" + way + ")", () -> x.down(way), model.down(way));
                    break;
                case 6:
                    due("count", () -> x.count(job, task - 1), model.count(job, task - 1));
                    break;
                case 7:
                    int k = luck.nextInt(5) == 0 ? luck.nextInt(80) - 3 : luck.nextInt(9);
                    int part = luck.nextInt(5);
                    due("entry(" + k + ", " + part + ")", () -> x.entry(k, part), model.entry(k, part));
                    break;
                case 8:
                    due("state(" + job + ", " + task + ")", () -> x.state(job, task), model.state(job, task));
                    break;
                case 9:
                case 10:
                case 11:
                case 12:
                case 13:
                case 14:
                case 15:
                    int n = luck.nextInt(30) == 0 ? luck.nextInt(5200) - 50 : 1 + luck.nextInt(luck.nextBoolean() ? 2 : 20);
                    due("pass(" + n + ")", () -> x.pass(n), model.pass(n));
                    due("now()", () -> x.now(), model.now);
                    due("entries()", () -> x.entries(), model.log.size());
                    break;
                default:
                    makeEnd(job, task);
            }
        }

        private void makeMinuteCall(int job) {
            int minute = luck.nextInt(9) == 0 ? luck.nextInt(3) - 1 + Checks.LIMIT : luck.nextInt(Checks.LIMIT);
            String want = null;
            if (job < 0 || job >= model.jobs.size()) {
                want = Checks.INDEX;
            } else if (minute >= Checks.LIMIT) {
                want = Checks.ARGUMENT;
            }
            due("holds(" + job + ", " + minute + ")", () -> x.holds(job, minute) ? 1 : 0,
                want != null ? want : model.jobs.get(job).holds(minute) ? "1" : "0");
            if (want == null) {
                int at = minute + 1;
                while (at < minute + 100000 && at < Checks.LIMIT && !model.jobs.get(job).holds(at)) {
                    at++;
                }
                if (at == Checks.LIMIT || at < minute + 100000) {
                    want = at == Checks.LIMIT ? "-1" : "" + at;
                } else {
                    return;
                }
            }
            due("next(" + job + ", " + minute + ")", () -> x.next(job, minute), want);
        }

        /** Most often of a task that is running, for else hardly any would end. */
        private void makeEnd(int job, int task) {
            int ofJob = job;
            int ofTask = task;
            if (luck.nextInt(10) > 0) {
                for (int other = 0; other < model.jobs.size() * 6; other++) {
                    int j = (job + 1 + other / 6) % model.jobs.size();
                    if (model.state(j, (task + other) % 6) == 3) {
                        ofJob = j;
                        ofTask = (task + other) % 6;
                    }
                }
            }
            int endedJob = ofJob;
            int endedTask = ofTask;
            boolean well = luck.nextInt(3) > 0;
            due("end(" + ofJob + ", " + ofTask + ", " + well + ")", () -> x.end(endedJob, endedTask, well),
                model.end(ofJob, ofTask, well));
            due("state of it", () -> x.state(endedJob, endedTask), model.state(ofJob, ofTask));
            due("under way", () -> x.count(endedJob, 2), model.count(ofJob, 2));
        }
    }
}
