/** Promise 5: erase. */
public final class Promise05EraseTest {
    public static void main(String[] args) {
        Checks.run(Promise05EraseTest.class);
    }

    static void promise5TheTextIsEmptyThen() {
        Desk x = new Desk();
        x.type("* * * * ");
        x.erase();
        Checks.due("room", x.room(), 60);
        Checks.due("job()", Checks.answer(() -> x.job(0)), Checks.ARGUMENT);
        Checks.due("fault()", x.fault(), 0);
    }

    static void promise5OfAnEmptyText() {
        Desk x = new Desk();
        x.same("erase()", "0", d -> {
            d.erase();
            return 0;
        });
        Checks.due("room", x.room(), 60);
    }

    static void promise5OfAFullText() {
        Desk x = new Desk();
        for (int i = 0; i < 60; i++) {
            x.type('x');
        }
        Checks.due("type of a 61st", x.type('x'), false);
        x.erase();
        Checks.due("room", x.room(), 60);
        Checks.due("type of one", x.type('x'), true);
    }

    static void promise5NothingOfTheOldIsLeft() {
        Desk x = new Desk();
        x.type("9,9,9,9,9 9 9 9 6");
        x.erase();
        x.type("1");
        Checks.due("job() of the new alone", Checks.answer(() -> x.job(0)), Checks.ARGUMENT);
        Checks.due("fault()", x.fault(), 1);
        x.type(" * * * *");
        Checks.due("job()", x.job(0), 0);
        Checks.due("next(0, 0)", x.next(0, 0), 1);
        Checks.due("next(0, 1)", x.next(0, 1), 61);
    }

    static void promise5NothingElseIsChanged() {
        Desk x = Desk.withTasks("* * * * *", 3);
        x.type("x");
        Checks.due("job()", Checks.answer(() -> x.job(0)), Checks.ARGUMENT);
        x.pass(1);
        x.erase();
        x.same("erase()", "0", d -> {
            d.erase();
            return 0;
        });
        Checks.due("fault()", x.fault(), 0);
        Checks.due("states", x.states(0), "331");
    }
}
