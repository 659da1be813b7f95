/** Promises 2 (type), 3 (job), 4 (fault) and 5 (erase). */
public final class TextTest {
    public static void main(String[] args) {
        typePutsTheLowestBitsFirst();
        typeStopsAtTheFirstZero();
        typeRefusesOtherSigns();
        typeRefusesMoreThanSixty();
        eraseEmptiesTheText();
        jobTakesTheText();
        jobsAreSix();
        faultOfWhatIsMissing();
        faultOfWhatStandsInTheWrongPlace();
        faultOfNumbers();
        expressionsHaveNoFault();
        faultIsOfTheLastReading();
        Checks.close();
    }

    /** Makes a job of a text and tells the fault, -1 when there is none. */
    private static void fault(String text, int want) {
        TimedRuns x = Checks.typed(text);
        String before = Checks.seen(x);
        Checks.due("job() of \"" + text + "\"", Checks.answer(() -> x.job(1)), want == -1 ? "0" : Checks.ARGUMENT);
        Checks.due("fault() of \"" + text + "\"", x.fault(), want);
        if (want != -1) {
            Checks.due("count(0, 3) after \"" + text + "\"", x.count(0, 3), -1);
            String after = Checks.seen(x).replaceFirst("^0 " + want, "0 -1");
            Checks.due("what is seen but the fault after \"" + text + "\"", after, before);
            // The text stays: it is read again with the same fault.
            Checks.due("job() again of \"" + text + "\"", Checks.answer(() -> x.job(1)), Checks.ARGUMENT);
            Checks.due("fault() again of \"" + text + "\"", x.fault(), want);
        }
    }

    private static void typePutsTheLowestBitsFirst() {
        TimedRuns x = new TimedRuns();
        Checks.due("type(\"1 2 3 4 \")", x.type(0x2034203320322031L), true);
        Checks.due("type(\"5\")", x.type(0x35L), true);
        Checks.due("job()", Checks.answer(() -> x.job(0)), "0");
        Checks.due("next(0, 0)", x.next(0, 0), (31 + 29 + 31 + 2) * 1440 + 2 * 60 + 1);
    }

    private static void typeStopsAtTheFirstZero() {
        TimedRuns x = Checks.typed("* * * *");
        Checks.due("type(0)", x.type(0), true);
        Checks.due("type of a sign behind 0 alone", x.type(0x2000L), true);
        Checks.due("type of a bad sign behind 0", x.type(0xff01000000002a20L), true);
        Checks.due("job()", Checks.answer(() -> x.job(0)), "0");
    }

    private static void typeRefusesOtherSigns() {
        long[] refused = {31, 127, 128, 255, 0x2a1f, 0x7f2a, -1, 0x1f2020202020202aL, 0x802a2a2a2a2a2a2aL, 9, 10, 13};
        for (long row : refused) {
            TimedRuns x = Checks.typed("* * * * ");
            Checks.due("type(" + row + ")", x.type(row), false);
            Checks.due("job() behind it", Checks.answer(() -> x.job(0)), Checks.ARGUMENT);
            Checks.due("fault() behind it", x.fault(), 8);
            x.type('*');
            Checks.due("job() of what was there", Checks.answer(() -> x.job(0)), "0");
        }
        TimedRuns x = new TimedRuns();
        Checks.due("type(32)", x.type(32), true);
        Checks.due("type(126)", x.type(126), true);
        Checks.due("type(32, 126)", x.type(0x7e20), true);
    }

    private static void typeRefusesMoreThanSixty() {
        String text = "0,1,2,3,4,5,6,7,8,9,10,11,12,13,14,15,16,17,18,19,0 * * * *";
        TimedRuns x = Checks.typed(text);
        Checks.due("length", text.length(), 59);
        Checks.due("type of two more", x.type(Checks.row(",2")), false);
        Checks.due("type of nothing more", x.type(0), true);
        Checks.due("type of one more", x.type('/'), true);
        Checks.due("type of a 61st", x.type('2'), false);
        Checks.due("type of nothing at 60", x.type(0), true);
        Checks.due("job() of 60", Checks.answer(() -> x.job(0)), Checks.ARGUMENT);
        Checks.due("fault() of 60", x.fault(), 60);
    }

    private static void eraseEmptiesTheText() {
        TimedRuns x = Checks.typed("* * * * ");
        x.erase();
        Checks.due("job() of the erased text", Checks.answer(() -> x.job(0)), Checks.ARGUMENT);
        Checks.due("fault() of the erased text", x.fault(), 0);
        x.erase();
        Checks.due("fault() is not erased", x.fault(), 0);
        Checks.due("job()", Checks.answer(() -> Checks.job(x, "1 * * * *", 0)), "0");
        for (int i = 0; i < 7; i++) {
            Checks.type(x, "abcdefgh");
        }
        Checks.due("type beyond 60", x.type(Checks.row("abcde")), false);
        x.erase();
        Checks.due("type when erased", x.type(Checks.row("abcde")), true);
    }

    private static void jobTakesTheText() {
        TimedRuns x = Checks.typed("* * * *");
        Checks.due("job() too early", Checks.answer(() -> x.job(7)), Checks.ARGUMENT);
        Checks.type(x, " *");
        Checks.due("job() then", Checks.answer(() -> x.job(7)), "0");
        Checks.due("job() of the empty text", Checks.answer(() -> x.job(7)), Checks.ARGUMENT);
        Checks.due("fault() of the empty text", x.fault(), 0);
        Checks.due("count(0, 3)", x.count(0, 3), 0);
        Checks.due("count(0, 0)", x.count(0, 0), 0);
        Checks.due("count(1, 0)", x.count(1, 0), -1);
        Checks.due("the next job's number", Checks.job(x, "* * * * *", Integer.MIN_VALUE), 1);
    }

    private static void jobsAreSix() {
        TimedRuns x = new TimedRuns();
        for (int job = 0; job < 6; job++) {
            Checks.due("job number", Checks.job(x, job + " * * * *", 10 - job), job);
        }
        Checks.thrown("a seventh job of no text", x, Checks.UNSUPPORTED, () -> x.job(0));
        Checks.type(x, "x");
        Checks.thrown("a seventh job of no expression", x, Checks.UNSUPPORTED, () -> x.job(0));
        Checks.due("fault() then: nothing was read", x.fault(), -1);
        x.erase();
        Checks.type(x, "* * * * *");
        Checks.thrown("a seventh job", x, Checks.UNSUPPORTED, () -> x.job(0));
        for (int i = 0; i < 6; i++) {
            Checks.type(x, "12345678");
        }
        Checks.due("the text has stayed", x.type(Checks.row("1234")), false);
        for (int job = 0; job < 6; job++) {
            Checks.due("next of " + job, x.next(job, 100), 120 + job);
        }
    }

    private static void faultOfWhatIsMissing() {
        fault("", 0);
        fault("*", 1);
        fault("* ", 2);
        fault("* * * *", 7);
        fault("* * * * ", 8);
        fault("1", 1);
        fault("12", 2);
        fault("1-", 2);
        fault("1-5", 3);
        fault("1-5/", 4);
        fault("1-5/2", 5);
        fault("*/", 2);
        fault("*/1", 3);
        fault("1,", 2);
        fault("* * * * 1,", 10);
        fault("* * * * 1-", 10);
        fault("* * * * */", 10);
    }

    private static void faultOfWhatStandsInTheWrongPlace() {
        fault(" * * * * *", 0);
        fault("*  * * * *", 2);
        fault("x * * * *", 0);
        fault("- * * * *", 0);
        fault("/ * * * *", 0);
        fault(", * * * *", 0);
        fault("** * * * *", 1);
        fault("*5 * * * *", 1);
        fault("*-5 * * * *", 1);
        fault("5* * * * *", 1);
        fault("5/2 * * * *", 1);
        fault("15/2 * * * *", 2);
        fault("5,7/2 * * * *", 3);
        fault("5-* * * * *", 2);
        fault("5-7-9 * * * *", 3);
        fault("*/* * * * *", 2);
        fault("*/5/5 * * * *", 3);
        fault("*/5-7 * * * *", 3);
        fault("1-9/2-3 * * * *", 5);
        fault("1-9/2/3 * * * *", 5);
        fault("5,,6 * * * *", 2);
        fault("5, 6 * * * *", 2);
        fault("5 ,6 * * * *", 2);
        fault("5--6 * * * *", 2);
        fault("5-/6 * * * *", 2);
        fault("*//6 * * * *", 2);
        fault("a", 0);
        fault("1a", 1);
        fault("5:* * * * *", 1);
        fault("5. * * * *", 1);
        fault("* * * * * ", 9);
        fault("* * * * * *", 9);
        fault("* * * * **", 9);
        fault("* * * * *x", 9);
        fault("* * * * 5/2", 9);
        fault("* * * * 1-5/2/2", 13);
        fault("123 * * * *", 2);
        fault("012 * * * *", 2);
        fault("1-234 * * * *", 4);
        fault("*/123 * * * *", 4);
        fault("* * * * 011", 10);
        fault("* * * x *", 6);
        fault("* * x 99 *", 4);
    }

    private static void faultOfNumbers() {
        fault("60 * * * *", 0);
        fault("99 * * * *", 0);
        fault("99", 0);
        fault("600 * * * *", 0);
        fault("60x", 0);
        fault("* 24 * * *", 2);
        fault("* * 0 * *", 4);
        fault("* * 00 * *", 4);
        fault("* * 32 * *", 4);
        fault("* * * 0 *", 6);
        fault("* * * 13 *", 6);
        fault("* * * * 8", 8);
        fault("* * * * 10", 8);
        fault("* * * * 0-8", 10);
        fault("5-60 * * * *", 2);
        fault("9-8 * * * *", 2);
        fault("9-08x", 2);
        fault("30-29 * * * *", 3);
        fault("30-2 * * * *", 3);
        fault("60-70 * * * *", 0);
        fault("*/0 * * * *", 2);
        fault("*/00 * * * *", 2);
        fault("*/000 * * * *", 2);
        fault("*/0", 2);
        fault("1-5/0 * * * *", 4);
        fault("1-5/00x", 4);
        fault("1,2,60,4 * * * *", 4);
        fault("1,70-80/0 x", 2);
        fault("* * * * 6-0", 10);
        fault("* * * * 7-1", 10);
        fault("* * 31,0 * *", 7);
        fault("* 0-24 * * *", 4);
    }

    private static void expressionsHaveNoFault() {
        fault("* * * * *", -1);
        fault("0 0 1 1 0", -1);
        fault("59 23 31 12 7", -1);
        fault("00 00 01 01 00", -1);
        fault("09 08 07 06 05", -1);
        fault("* * * * 07", -1);
        fault("*/1 */99 */01 */12 */7", -1);
        fault("0-59 0-23 1-31 1-12 0-7", -1);
        fault("5-5 5-05 05-5 5-5/9 7-7", -1);
        fault("0-59/99 0-23/1 1-31/31 1-12/2 0-7/3", -1);
        fault("*,5 5,* *,* */2,*/3 1,2-3,4-7/2", -1);
        fault("5,5,5 3,2,1 31,1 12,1 7,0", -1);
    }

    private static void faultIsOfTheLastReading() {
        TimedRuns x = new TimedRuns();
        Checks.due("fault() at first", x.fault(), -1);
        Checks.type(x, "* * x");
        Checks.due("fault() before job()", x.fault(), -1);
        Checks.due("job()", Checks.answer(() -> x.job(0)), Checks.ARGUMENT);
        Checks.due("fault()", x.fault(), 4);
        x.erase();
        Checks.type(x, "* * * * *");
        Checks.due("fault() when it was typed anew", x.fault(), 4);
        Checks.due("job()", Checks.answer(() -> x.job(0)), "0");
        Checks.due("fault() of an expression", x.fault(), -1);
        Checks.due("job()", Checks.answer(() -> x.job(0)), Checks.ARGUMENT);
        Checks.due("fault() of the empty text", x.fault(), 0);
    }
}
