import java.util.Objects;

/** What all tests use: making calls, telling their answers as texts, and counting the wrong ones. */
final class Checks {
    interface Call {
        long make();
    }

    interface Act {
        void make();
    }

    static final String INDEX = "IndexOutOfBoundsException";
    static final String ARGUMENT = "IllegalArgumentException";
    static final String STATE = "IllegalStateException";
    static final String UNSUPPORTED = "UnsupportedOperationException";

    private static int made = 0;
    private static int wrong = 0;

    private Checks() {
    }

    static void due(String what, Object got, Object want) {
        made++;
        if (!Objects.equals(got, want)) {
            wrong++;
            System.out.println(what + " answered " + got + ", due is " + want);
        }
    }

    static void due(String what, long got, long want) {
        due(what, Long.valueOf(got), Long.valueOf(want));
    }

    static void due(String what, boolean got, boolean want) {
        due(what, Boolean.valueOf(got), Boolean.valueOf(want));
    }

    /** The answer of a call, or the name of the exception that it throws. */
    static String answer(Call call) {
        try {
            return Long.toString(call.make());
        } catch (RuntimeException e) {
            return e.getClass().getSimpleName();
        }
    }

    /** The call throws this exception, and nothing that can be seen changes. */
    static void thrown(String what, TimedRuns x, String name, Call call) {
        String before = seen(x);
        due(what, answer(call), name);
        due(what + " and what is seen then", seen(x), before);
    }

    static void thrown(String what, TimedRuns x, String name, Act act) {
        thrown(what, x, name, () -> {
            act.make();
            return 0;
        });
    }

    /** All that an object tells of itself, but for the text. */
    static String seen(TimedRuns x) {
        StringBuilder all = new StringBuilder();
        all.append(x.now()).append(' ').append(x.fault()).append(' ').append(x.count(0, 4));
        for (int job = 0; job < 6; job++) {
            all.append("\njob ").append(job).append(':');
            for (int what = 0; what < 4; what++) {
                all.append(' ').append(x.count(job, what));
            }
            for (int task = 0; task < 6; task++) {
                all.append(' ').append(x.state(job, task));
            }
        }
        return all.append("\n").append(x.entries()).append(log(x, 64)).toString();
    }

    /** The latest entries, the oldest of them first: kind@minute:job.task. */
    static String log(TimedRuns x, int most) {
        StringBuilder all = new StringBuilder();
        for (int k = Math.min(most, Math.min(64, x.entries())) - 1; k >= 0; k--) {
            all.append(' ').append(x.entry(k, 0)).append('@').append(x.entry(k, 1)).append(':').append(x.entry(k, 2));
            if (x.entry(k, 3) != TimedRuns.NONE) {
                all.append('.').append(x.entry(k, 3));
            }
        }
        return all.toString().trim();
    }

    static long row(String signs) {
        long row = 0;
        for (int i = signs.length() - 1; i >= 0; i--) {
            row = row << 8 | signs.charAt(i);
        }
        return row;
    }

    static void type(TimedRuns x, String text) {
        for (int i = 0; i < text.length(); i += 8) {
            due("type " + text, x.type(row(text.substring(i, Math.min(text.length(), i + 8)))), true);
        }
    }

    static TimedRuns typed(String text) {
        TimedRuns x = new TimedRuns();
        type(x, text);
        return x;
    }

    static int job(TimedRuns x, String text, int rank) {
        type(x, text);
        return x.job(rank);
    }

    static TimedRuns withJob(String text) {
        TimedRuns x = new TimedRuns();
        due("job of " + text, answer(() -> job(x, text, 0)), "0");
        return x;
    }

    static void close() {
        System.out.println(made + " checks, " + wrong + " wrong");
        if (wrong != 0) {
            System.exit(1);
        }
    }
}
