/** Promise 19: entry. */
public final class Promise19EntryTest {
    public static void main(String[] args) {
        Checks.run(Promise19EntryTest.class);
    }

    /** A new object with so many entries: the first is of a run, the second of its task, the others are missed. */
    private static Desk withEntries(int count) {
        Desk x = Desk.withTasks("* * * * *", 1);
        x.pass(count - 1);
        Checks.due("entries()", x.entries(), count);
        return x;
    }

    private static void entry(Desk x, int k, String want) {
        StringBuilder got = new StringBuilder();
        for (int part = 0; part < 4; part++) {
            got.append(part > 0 ? " " : "").append(x.entry(k, part));
        }
        Checks.due("entry " + k, got.toString(), want);
    }

    static void promise19PartsFrom0To3() {
        Desk x = Desk.withSixJobs("59 23 31 12 *");
        x.tasks(5, 6);
        x.slots(6);
        x.set(Calendar.minute(2000, 12, 31, 23, 58));
        x.pass(1);
        int now = Calendar.minute(2000, 12, 31, 23, 59);
        entry(x, 0, "3 " + now + " 5 5");
        entry(x, 5, "3 " + now + " 5 0");
        entry(x, 6, "1 " + now + " 5 -1");
        entry(x, 7, "8 " + now + " 4 -1");
    }

    static void promise19NoSuchPart() {
        Desk x = withEntries(3);
        for (int part : new int[] {-1, 4, 5, Checks.LEAST, Checks.MOST}) {
            x.index("entry(0, " + part + ")", d -> d.entry(0, part));
            x.index("entry(2, " + part + ")", d -> d.entry(2, part));
        }
    }

    static void promise19OfAnEmptyLog() {
        Desk x = Desk.withTasks("* * * * *", 1);
        for (int k : new int[] {0, 1, 63, 64, -1, Checks.LEAST, Checks.MOST}) {
            x.index("entry(" + k + ", 0)", d -> d.entry(k, 0));
        }
    }

    static void promise19CountedBackFromTheLatest() {
        Desk x = withEntries(4);
        entry(x, 0, "2 3 0 -1");
        entry(x, 1, "2 2 0 -1");
        entry(x, 2, "3 1 0 0");
        entry(x, 3, "1 1 0 -1");
    }

    static void promise19NoneBeforeTheFirst() {
        for (int count : new int[] {2, 3, 10, 62, 63, 64}) {
            Desk x = withEntries(count);
            entry(x, count - 1, "1 1 0 -1");
            x.index("entry(" + count + ", 0) of " + count, d -> d.entry(count, 0));
            x.index("entry(" + (count + 1) + ", 3) of " + count, d -> d.entry(count + 1, 3));
        }
    }

    static void promise19NoneBelow0() {
        for (int count : new int[] {2, 64, 65, 200}) {
            Desk x = withEntries(count);
            for (int k : new int[] {-1, -64, Checks.LEAST}) {
                x.index("entry(" + k + ", 0) of " + count, d -> d.entry(k, 0));
            }
        }
    }

    static void promise19NoneAbove63() {
        for (int count : new int[] {64, 65, 66, 128, 129, 200}) {
            Desk x = withEntries(count);
            for (int k : new int[] {64, 65, 127, 128, count - 1, count, Checks.MOST}) {
                if (k > 63) {
                    x.index("entry(" + k + ", 0) of " + count, d -> d.entry(k, 0));
                }
            }
        }
    }

    static void promise19The63rdIsThereWhenThereAreMore() {
        for (int count : new int[] {64, 65, 66, 67, 127, 128, 129, 130, 192, 193, 5001}) {
            Desk x = withEntries(count);
            // The n-th entry is of minute n - 1, but for the first, of minute 1.
            int first = count - 63;
            String want = first == 1 ? "1 1 0 -1" : first == 2 ? "3 1 0 0" : "2 " + (first - 1) + " 0 -1";
            entry(x, 63, want);
            entry(x, 0, "2 " + (count - 1) + " 0 -1");
        }
    }

    static void promise19AllOf64AtEachTurn() {
        for (int count = 60; count <= 132; count += 8) {
            Desk x = withEntries(count);
            for (int k = 0; k < Math.min(64, count - 2); k++) {
                Checks.due("kind of " + k + " of " + count, x.entry(k, 0), 2);
                Checks.due("minute of " + k + " of " + count, x.entry(k, 1), count - 1 - k);
            }
        }
    }

    static void promise19WhenManyComeInOneCall() {
        Desk x = Desk.withSixJobs("* * * * *");
        x.pass(5000);
        Checks.due("entries()", x.entries(), 60000);
        for (int k = 0; k < 64; k++) {
            Checks.due("kind of " + k, x.entry(k, 0), k % 2 == 0 ? 8 : 1);
            Checks.due("minute of " + k, x.entry(k, 1), 5000 - k / 12);
            Checks.due("job of " + k, x.entry(k, 2), 5 - k / 2 % 6);
            Checks.due("task of " + k, x.entry(k, 3), Checks.NONE);
        }
    }
}
