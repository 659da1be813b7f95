/** Promise 4: fault. What the fault of a text is, TermsFaultTest asks. */
public final class Promise04FaultTest {
    public static void main(String[] args) {
        Checks.run(Promise04FaultTest.class);
    }

    static void promise4NoneWhenNoneWasReadYet() {
        Desk x = new Desk();
        Checks.due("at first", x.fault(), Checks.NONE);
        x.type("* * x");
        Checks.due("typed, not read", x.fault(), Checks.NONE);
        x.erase();
        Checks.due("erased, not read", x.fault(), Checks.NONE);
    }

    static void promise4NoneWhenItWasAnExpression() {
        Desk x = Desk.withJob("* * * * *");
        Checks.due("of an expression", x.fault(), Checks.NONE);
    }

    static void promise4OfTheTextReadLast() {
        Desk x = new Desk();
        x.type("* * x");
        Checks.due("job()", Checks.answer(() -> x.job(0)), Checks.ARGUMENT);
        Checks.due("of the first", x.fault(), 4);
        x.erase();
        x.type("*x");
        Checks.due("job()", Checks.answer(() -> x.job(0)), Checks.ARGUMENT);
        Checks.due("of the second", x.fault(), 1);
        x.erase();
        Checks.due("of an expression", x.job("* * * * *", 0), 0);
        Checks.due("none", x.fault(), Checks.NONE);
        Checks.due("job() of no text", Checks.answer(() -> x.job(0)), Checks.ARGUMENT);
        Checks.due("of no text", x.fault(), 0);
    }

    static void promise4StaysWhenNothingIsRead() {
        Desk x = Desk.withTasks("* * * * *", 1);
        x.type("* * x");
        Checks.due("job()", Checks.answer(() -> x.job(0)), Checks.ARGUMENT);
        x.same("fault()", "4", d -> d.fault());
        x.erase();
        Checks.due("behind erase()", x.fault(), 4);
        x.type("* * * * *");
        Checks.due("behind type()", x.fault(), 4);
        x.pass(1);
        x.end(0, 0, true);
        x.down(true);
        x.down(false);
        Checks.due("behind other calls", x.fault(), 4);
    }

    static void promise4StaysWhenThereAreSixJobs() {
        Desk x = Desk.withSixJobs("* * * * *");
        Checks.due("of the sixth", x.fault(), Checks.NONE);
        x.type("* * x");
        Checks.due("job()", Checks.answer(() -> x.job(0)), Checks.UNSUPPORTED);
        Checks.due("the seventh was not read", x.fault(), Checks.NONE);
    }

    static void promise4From0To60() {
        Desk x = new Desk();
        Checks.due("job()", Checks.answer(() -> x.job(0)), Checks.ARGUMENT);
        Checks.due("the least", x.fault(), 0);
        x.type("* * * * 1,1,1,1,1,1,1,1,1,1,1,1,1,1,1,1,1,1,1,1,1,1,1,1,1,1");
        x.type("/");
        Checks.due("job()", Checks.answer(() -> x.job(0)), Checks.ARGUMENT);
        Checks.due("at the last character", x.fault(), 59);
        x.erase();
        x.type("* * * * 1,1,1,1,1,1,1,1,1,1,1,1,1,1,1,1,1,1,1,1,1,1,1,1,1,1");
        x.type(",");
        Checks.due("job()", Checks.answer(() -> x.job(0)), Checks.ARGUMENT);
        Checks.due("behind the last character", x.fault(), 60);
    }
}
