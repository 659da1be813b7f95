/** A desk that starts jobs at minutes that expressions tell; README.md says how to use it. */
public final class TimedRuns {
    public static final int NONE = -1;

    private static final int MINUTE_LIMIT = 20000000;
    private static final int DAY_MINUTES = 1440;
    private static final int MOST_JOBS = 6;
    private static final int MOST_TASKS = 6;
    private static final int MOST_SLOTS = 6;
    private static final int MOST_TRIES = 4;
    private static final int LONGEST_PAUSE = 1000;
    private static final int MOST_STEPS = 5000;

    private static final int IDLE = 0;
    private static final int WAITING = 1;
    private static final int PAUSING = 2;
    private static final int RUNNING = 3;
    private static final int DONE = 4;
    private static final int FAILED = 5;
    private static final int LEFT_OUT = 6;

    private static final int LOG_BEGUN = 1;
    private static final int LOG_MISSED = 2;
    private static final int LOG_RUNNING = 3;
    private static final int LOG_DONE = 4;
    private static final int LOG_PAUSING = 5;
    private static final int LOG_FAILED = 6;
    private static final int LOG_LEFT_OUT = 7;
    private static final int LOG_OVER = 8;

    private static final int FIELDS = 5;
    private static final int MINUTES = 0;
    private static final int HOURS = 1;
    private static final int DAYS = 2;
    private static final int MONTHS = 3;
    private static final int WEEKDAYS = 4;
    private static final int[] FIELD_LOWEST = {0, 0, 1, 1, 0};
    private static final int[] FIELD_HIGHEST = {59, 23, 31, 12, 7};

    private final Reader reader = new Reader();
    private final Day day = new Day();
    private final Log log = new Log();
    private final Job[] jobs = new Job[MOST_JOBS];
    private int jobCount = 0;
    private int lastFault = NONE;
    private int slotCount = 2;
    private int minuteNow = 0;
    private boolean isDown = false;
    private int downSince = 0;

    public TimedRuns() {
    }

    public boolean type(long row) {
        return reader.text.append(row);
    }

    public int job(int rank) throws UnsupportedOperationException, IllegalArgumentException {
        if (jobCount >= MOST_JOBS) {
            throw new UnsupportedOperationException();
        }
        lastFault = reader.read();
        if (lastFault != NONE) {
            throw new IllegalArgumentException();
        }
        jobs[jobCount] = new Job(rank, reader.expression());
        reader.text.clear();
        return jobCount++;
    }

    public int fault() {
        return lastFault;
    }

    public void erase() {
        reader.text.clear();
    }

    public int task(int job, int needs, int tries, int pause)
            throws IndexOutOfBoundsException, UnsupportedOperationException, IllegalArgumentException {
        if (!isJob(job)) {
            throw new IndexOutOfBoundsException();
        }
        Job owner = jobs[job];
        if (owner.taskCount >= MOST_TASKS || owner.underWay) {
            throw new UnsupportedOperationException();
        }
        boolean needsOthers = (needs & ~owner.allTasks()) != 0;
        if (needsOthers || tries < 1 || tries > MOST_TRIES || pause < 0 || pause > LONGEST_PAUSE) {
            throw new IllegalArgumentException();
        }
        return owner.addTask(new Task(needs, tries, pause));
    }

    public boolean slots(int n) {
        if (n < 1 || n > MOST_SLOTS) {
            return false;
        }
        slotCount = n;
        return true;
    }

    public boolean holds(int job, int minute) throws IndexOutOfBoundsException, IllegalArgumentException {
        if (!isJob(job)) {
            throw new IndexOutOfBoundsException();
        }
        if (!isMinute(minute)) {
            throw new IllegalArgumentException();
        }
        return holdsAt(jobs[job].expression, minute);
    }

    public int next(int job, int minute) throws IndexOutOfBoundsException, IllegalArgumentException {
        if (!isJob(job)) {
            throw new IndexOutOfBoundsException();
        }
        if (!isMinute(minute)) {
            throw new IllegalArgumentException();
        }
        return firstBehind(jobs[job].expression, minute, MINUTE_LIMIT - 1);
    }

    public int part(int minute, int part) throws IllegalArgumentException {
        if (!isMinute(minute) || part < 0 || part > 5) {
            throw new IllegalArgumentException();
        }
        day.turnTo(minute / DAY_MINUTES);
        switch (part) {
            case 0:
                return day.year;
            case 1:
                return day.month;
            case 2:
                return day.ofMonth;
            case 3:
                return minute % DAY_MINUTES / 60;
            case 4:
                return minute % 60;
            default:
                return day.weekday();
        }
    }

    public int pass(int n) throws IllegalArgumentException, IllegalStateException {
        if (n < 1 || n > MOST_STEPS) {
            throw new IllegalArgumentException();
        }
        if (minuteNow + n >= MINUTE_LIMIT) {
            throw new IllegalStateException();
        }
        if (isDown) {
            minuteNow += n;
            return 0;
        }
        int started = 0;
        for (int i = 0; i < n; i++) {
            started += makeStep();
        }
        return started;
    }

    public void set(int minute) throws IllegalStateException, IllegalArgumentException {
        if (isDown || isAnyRunUnderWay()) {
            throw new IllegalStateException();
        }
        if (minute < minuteNow || minute >= MINUTE_LIMIT) {
            throw new IllegalArgumentException();
        }
        minuteNow = minute;
    }

    public int end(int job, int task, boolean well) throws IndexOutOfBoundsException, IllegalStateException {
        if (!isTask(job, task)) {
            throw new IndexOutOfBoundsException();
        }
        if (isDown || jobs[job].tasks[task].state != RUNNING) {
            throw new IllegalStateException();
        }
        endTask(job, task, well);
        return jobs[job].tasks[task].state;
    }

    public int down(boolean down) throws IllegalStateException {
        if (down == isDown) {
            throw new IllegalStateException();
        }
        isDown = down;
        if (down) {
            downSince = minuteNow;
            return 0;
        }
        return catchUp();
    }

    public int now() {
        return minuteNow;
    }

    public int state(int job, int task) {
        return isTask(job, task) ? jobs[job].tasks[task].state : NONE;
    }

    public int count(int job, int what) {
        if (what == 4) {
            return countRunning();
        }
        if (!isJob(job)) {
            return NONE;
        }
        switch (what) {
            case 0:
                return jobs[job].begun;
            case 1:
                return jobs[job].missed;
            case 2:
                return jobs[job].underWay ? 1 : 0;
            case 3:
                return jobs[job].taskCount;
            default:
                return NONE;
        }
    }

    public int entries() {
        return log.total;
    }

    public int entry(int k, int part) throws IndexOutOfBoundsException {
        if (!log.keeps(k) || part < 0 || part >= Log.PARTS) {
            throw new IndexOutOfBoundsException();
        }
        return log.read(k, part);
    }

    private boolean isJob(int job) {
        return job >= 0 && job < jobCount;
    }

    private boolean isTask(int job, int task) {
        return isJob(job) && task >= 0 && task < jobs[job].taskCount;
    }

    private static boolean isMinute(int minute) {
        return minute >= 0 && minute < MINUTE_LIMIT;
    }

    private boolean isAnyRunUnderWay() {
        for (int job = 0; job < jobCount; job++) {
            if (jobs[job].underWay) {
                return true;
            }
        }
        return false;
    }

    private int countRunning() {
        int running = 0;
        for (int job = 0; job < jobCount; job++) {
            running += jobs[job].countRunning();
        }
        return running;
    }

    private boolean holdsAt(Expression expression, int minute) {
        if (!expression.hasTime(minute % DAY_MINUTES)) {
            return false;
        }
        day.turnTo(minute / DAY_MINUTES);
        return expression.hasDay(day);
    }

    /** The first minute above this one, and not above the last, at which the expression holds; or NONE. */
    private int firstBehind(Expression expression, int minute, int last) {
        int from = minute + 1;
        int time = from % DAY_MINUTES;
        for (int number = from / DAY_MINUTES; number <= last / DAY_MINUTES; number++) {
            day.turnTo(number);
            int found = expression.hasDay(day) ? expression.firstTime(time) : NONE;
            if (found != NONE) {
                int at = number * DAY_MINUTES + found;
                return at <= last ? at : NONE;
            }
            time = 0;
        }
        return NONE;
    }

    private int makeStep() {
        minuteNow++;
        for (int job = 0; job < jobCount; job++) {
            if (holdsAt(jobs[job].expression, minuteNow)) {
                fire(job);
            }
        }
        return startTasks();
    }

    private int catchUp() {
        for (int job = 0; job < jobCount; job++) {
            for (int task = 0; task < jobs[job].taskCount; task++) {
                if (jobs[job].tasks[task].state == RUNNING) {
                    endTask(job, task, false);
                }
            }
        }
        for (int job = 0; job < jobCount; job++) {
            if (firstBehind(jobs[job].expression, downSince, minuteNow) != NONE) {
                fire(job);
            }
        }
        return startTasks();
    }

    private void fire(int job) {
        if (jobs[job].underWay) {
            jobs[job].missed++;
            log.add(LOG_MISSED, minuteNow, job, NONE);
            return;
        }
        jobs[job].begin();
        log.add(LOG_BEGUN, minuteNow, job, NONE);
        closeRunIfOver(job);
    }

    private void closeRunIfOver(int job) {
        if (jobs[job].isAllOver()) {
            jobs[job].underWay = false;
            log.add(LOG_OVER, minuteNow, job, NONE);
        }
    }

    private int startTasks() {
        int started = 0;
        for (int free = slotCount - countRunning(); free > 0; free--) {
            int job = firstReadyJob();
            if (job == NONE) {
                break;
            }
            int task = jobs[job].firstReady(minuteNow);
            jobs[job].tasks[task].state = RUNNING;
            log.add(LOG_RUNNING, minuteNow, job, task);
            started++;
        }
        return started;
    }

    private int firstReadyJob() {
        int first = NONE;
        for (int job = 0; job < jobCount; job++) {
            boolean ranksAbove = first == NONE || jobs[job].rank > jobs[first].rank;
            if (ranksAbove && jobs[job].firstReady(minuteNow) != NONE) {
                first = job;
            }
        }
        return first;
    }

    private void endTask(int job, int task, boolean well) {
        Task ended = jobs[job].tasks[task];
        if (well) {
            ended.state = DONE;
            log.add(LOG_DONE, minuteNow, job, task);
        } else if (ended.tryAgain(minuteNow)) {
            log.add(LOG_PAUSING, minuteNow, job, task);
        } else {
            ended.state = FAILED;
            log.add(LOG_FAILED, minuteNow, job, task);
            leaveOutBehind(job, task);
        }
        closeRunIfOver(job);
    }

    private void leaveOutBehind(int job, int failed) {
        Job owner = jobs[job];
        int lost = 1 << failed;
        // Needs have lesser numbers, so one way upward also finds those that need such as need it.
        for (int task = failed + 1; task < owner.taskCount; task++) {
            Task other = owner.tasks[task];
            if ((other.needs & lost) != 0) {
                lost |= 1 << task;
                // What an earlier failure left out stands in the log already.
                if (other.state != LEFT_OUT) {
                    other.state = LEFT_OUT;
                    log.add(LOG_LEFT_OUT, minuteNow, job, task);
                }
            }
        }
    }

    /** The characters that were typed and not yet made a job of. */
    private static final class Text {
        static final int LONGEST = 60;
        /** No typed character has this number. */
        static final char END = 0;

        private final char[] signs = new char[LONGEST];
        private int length = 0;

        boolean append(long row) {
            int added = 0;
            for (int i = 0; i < 8 && signOf(row, i) != 0; i++) {
                if (signOf(row, i) < 32 || signOf(row, i) > 126) {
                    return false;
                }
                added++;
            }
            if (length + added > LONGEST) {
                return false;
            }
            for (int i = 0; i < added; i++) {
                signs[length + i] = signOf(row, i);
            }
            length += added;
            return true;
        }

        private static char signOf(long row, int i) {
            return (char) ((row >>> (8 * i)) & 255);
        }

        void clear() {
            length = 0;
        }

        char signAt(int place) {
            return place >= 0 && place < length ? signs[place] : END;
        }
    }

    /** Reads the text as an expression, from the left up to what is wrong first. */
    private static final class Reader {
        private final Text text = new Text();
        private final long[] numbers = new long[FIELDS];
        private boolean daysFree = false;
        private boolean weekdaysFree = false;
        private int place = 0;
        private int wrong = NONE;

        /** The fault of the text, NONE when it is an expression. */
        int read() {
            place = 0;
            wrong = NONE;
            for (int field = 0; field < FIELDS && wrong == NONE; field++) {
                readField(field);
            }
            return wrong;
        }

        /** The expression that was read last; it had no fault. */
        Expression expression() {
            return new Expression(numbers, daysFree || weekdaysFree);
        }

        private void readField(int field) {
            numbers[field] = 0;
            if (field == DAYS) {
                daysFree = text.signAt(place) == '*';
            }
            if (field == WEEKDAYS) {
                weekdaysFree = text.signAt(place) == '*';
            }
            readItem(field);
            // An item has a character at least, so there are never more of them than characters.
            for (int items = 1; items < Text.LONGEST && wrong == NONE && text.signAt(place) == ','; items++) {
                place++;
                readItem(field);
            }
            if (wrong == NONE) {
                readEndOfField(field);
            }
        }

        private void readEndOfField(int field) {
            char due = field == FIELDS - 1 ? Text.END : ' ';
            if (text.signAt(place) == due) {
                place++;
            } else {
                wrong = place;
            }
        }

        private void readItem(int field) {
            int least = FIELD_LOWEST[field];
            int most = FIELD_HIGHEST[field];
            boolean mayHaveStep = true;
            if (text.signAt(place) == '*') {
                place++;
            } else {
                least = readNumber(least, most);
                mayHaveStep = wrong == NONE && text.signAt(place) == '-';
                if (mayHaveStep) {
                    place++;
                    most = readNumber(least, most);
                } else {
                    most = least;
                }
            }
            int step = 1;
            if (wrong == NONE && mayHaveStep && text.signAt(place) == '/') {
                place++;
                step = readNumber(1, 99);
            }
            if (wrong == NONE) {
                addNumbers(field, least, most, step);
            }
        }

        private void addNumbers(int field, int least, int most, int step) {
            for (int number = least; number <= most; number++) {
                if ((number - least) % step == 0) {
                    // Weekday 7 is Sunday, as 0 is.
                    int kept = field == WEEKDAYS ? number % 7 : number;
                    numbers[field] |= 1L << kept;
                }
            }
        }

        /** One or two digits; what is out of the bounds is wrong at once, whatever follows. */
        private int readNumber(int lowest, int highest) {
            int first = place;
            int number = 0;
            while (place < first + 2 && isDigit(text.signAt(place))) {
                number = number * 10 + (text.signAt(place) - '0');
                place++;
            }
            if (place == first || number < lowest || number > highest) {
                wrong = first;
            }
            return number;
        }

        private static boolean isDigit(char sign) {
            return sign >= '0' && sign <= '9';
        }
    }

    /** The numbers of the five fields, a bit for each. */
    private static final class Expression {
        private final long[] numbers;
        private final boolean bothDays;

        Expression(long[] numbers, boolean bothDays) {
            this.numbers = numbers.clone();
            this.bothDays = bothDays;
        }

        private boolean has(int field, int number) {
            return ((numbers[field] >>> number) & 1) != 0;
        }

        boolean hasTime(int time) {
            return has(MINUTES, time % 60) && has(HOURS, time / 60);
        }

        boolean hasDay(Day day) {
            if (!has(MONTHS, day.month)) {
                return false;
            }
            boolean byMonth = has(DAYS, day.ofMonth);
            boolean byWeek = has(WEEKDAYS, day.weekday());
            return bothDays ? byMonth && byWeek : byMonth || byWeek;
        }

        /** The first minute of a day, from this one on, with a fitting hour and minute; or NONE. */
        int firstTime(int from) {
            for (int time = from; time < DAY_MINUTES; time++) {
                if (hasTime(time)) {
                    return time;
                }
            }
            return NONE;
        }
    }

    /** A leaf of the calendar, made once and turned to the day that is asked for. */
    private static final class Day {
        private static final int FIRST_YEAR = 2000;
        private static final int LAST_YEAR = 2038;
        private static final int[] MONTH_DAYS = {31, 28, 31, 30, 31, 30, 31, 31, 30, 31, 30, 31};

        private int number = 0;
        private int year = FIRST_YEAR;
        private int month = 1;
        private int ofMonth = 1;

        void turnTo(int wanted) {
            if (wanted == number) {
                return;
            }
            // Walks over years ask for day after day; to find each from the first year on would be long.
            if (wanted == number + 1) {
                turnOne();
            } else {
                find(wanted);
            }
            number = wanted;
        }

        private void turnOne() {
            ofMonth++;
            if (ofMonth > daysOfMonth()) {
                ofMonth = 1;
                month++;
            }
            if (month > 12) {
                month = 1;
                year++;
            }
        }

        private void find(int wanted) {
            int rest = wanted;
            year = FIRST_YEAR;
            while (year < LAST_YEAR && rest >= daysOfYear()) {
                rest -= daysOfYear();
                year++;
            }
            month = 1;
            while (month < 12 && rest >= daysOfMonth()) {
                rest -= daysOfMonth();
                month++;
            }
            ofMonth = rest + 1;
        }

        int weekday() {
            // Day 0 is a Saturday.
            return (number + 6) % 7;
        }

        private boolean isLeapYear() {
            return year % 4 == 0 && year % 100 != 0 || year % 400 == 0;
        }

        private int daysOfYear() {
            return isLeapYear() ? 366 : 365;
        }

        private int daysOfMonth() {
            return month == 2 && isLeapYear() ? 29 : MONTH_DAYS[month - 1];
        }
    }

    private static final class Job {
        private final int rank;
        private final Expression expression;
        private final Task[] tasks = new Task[MOST_TASKS];
        private int taskCount = 0;
        private boolean underWay = false;
        private int begun = 0;
        private int missed = 0;

        Job(int rank, Expression expression) {
            this.rank = rank;
            this.expression = expression;
        }

        /** The set of all its tasks. */
        int allTasks() {
            return (1 << taskCount) - 1;
        }

        int addTask(Task added) {
            tasks[taskCount] = added;
            return taskCount++;
        }

        void begin() {
            begun++;
            underWay = true;
            for (int task = 0; task < taskCount; task++) {
                tasks[task].begin();
            }
        }

        boolean isAllOver() {
            for (int task = 0; task < taskCount; task++) {
                if (!tasks[task].isOver()) {
                    return false;
                }
            }
            return true;
        }

        int countRunning() {
            int running = 0;
            for (int task = 0; task < taskCount; task++) {
                if (tasks[task].state == RUNNING) {
                    running++;
                }
            }
            return running;
        }

        int firstReady(int now) {
            int done = 0;
            // Needs have lesser numbers, so all that are done and matter were seen before.
            for (int task = 0; task < taskCount; task++) {
                if (tasks[task].isReady(now, done)) {
                    return task;
                }
                if (tasks[task].state == DONE) {
                    done |= 1 << task;
                }
            }
            return NONE;
        }
    }

    private static final class Task {
        private final int needs;
        private final int mostTries;
        private final int pause;
        private int state = IDLE;
        private int tried = 0;
        private int until = 0;

        Task(int needs, int mostTries, int pause) {
            this.needs = needs;
            this.mostTries = mostTries;
            this.pause = pause;
        }

        void begin() {
            state = WAITING;
            tried = 0;
        }

        boolean isOver() {
            return state == DONE || state == FAILED || state == LEFT_OUT;
        }

        boolean isReady(int now, int done) {
            boolean mayStart = state == WAITING || state == PAUSING && until <= now;
            return mayStart && (needs & ~done) == 0;
        }

        /** Counts a try that went badly; pauses, and answers true, when there are more. */
        boolean tryAgain(int now) {
            int before = tried;
            tried++;
            if (tried >= mostTries) {
                return false;
            }
            state = PAUSING;
            until = now + (pause << before);
            return true;
        }
    }

    /** The latest entries in a ring, and how many there ever were. */
    private static final class Log {
        static final int KEPT = 64;
        static final int PARTS = 4;

        private final int[] parts = new int[KEPT * PARTS];
        private int total = 0;

        void add(int kind, int minute, int job, int task) {
            int at = total % KEPT * PARTS;
            parts[at] = kind;
            parts[at + 1] = minute;
            parts[at + 2] = job;
            parts[at + 3] = task;
            total++;
        }

        boolean keeps(int back) {
            return back >= 0 && back < KEPT && back < total;
        }

        int read(int back, int part) {
            return parts[(total - 1 - back) % KEPT * PARTS + part];
        }
    }
}
