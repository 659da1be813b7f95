/** Promise 2: type. */
public final class Promise02TypeTest {
    private static final String SIXTY = "0,1,2,3,4,5,6,7,8,9,10,11,12,13,14,15,16,17,18,19,20 * * * *";

    public static void main(String[] args) {
        Checks.run(Promise02TypeTest.class);
    }

    static void promise2TheLowest8BitsComeFirst() {
        Desk x = new Desk();
        Checks.due("type(\"1 2 3 4 \")", x.type(0x2034203320322031L), true);
        Checks.due("type(\"5\")", x.type(0x35L), true);
        Checks.due("job()", x.job(0), 0);
        Checks.due("next(0, 0)", x.next(0, 0), (31 + 29 + 31 + 2) * 1440 + 2 * 60 + 1);
    }

    static void promise2BehindWhatWasTyped() {
        Desk x = new Desk();
        for (char sign : "7 * * * *".toCharArray()) {
            Checks.due("type('" + sign + "')", x.type(sign), true);
        }
        Checks.due("job()", x.job(0), 0);
        Checks.due("next(0, 0)", x.next(0, 0), 7);
    }

    static void promise2AtMostEight() {
        Desk x = new Desk();
        Checks.due("type of eight", x.type(0x2a2a2a2a2a2a2a2aL), true);
        Checks.due("room", x.room(), 52);
    }

    static void promise2UpToTheFirstThatIs0() {
        for (int put = 0; put < 8; put++) {
            Desk x = new Desk();
            // Behind the 0 stand signs that would be taken, and such as would not.
            long behind = put == 7 ? 0 : -1L << (8 * put + 8);
            long row = 0x2a2a2a2a2a2a2a2aL & ~(-1L << (8 * put));
            Checks.due("type of " + put, x.type(row), true);
            Checks.due("room", x.room(), 60 - put);
            Checks.due("type of " + put + " and bad ones behind 0", x.type(row | behind), true);
            Checks.due("room", x.room(), 60 - 2 * put);
            Checks.due("type of " + put + " and good ones behind 0",
                x.type(row | behind & 0x2a2a2a2a2a2a2a2aL), true);
            Checks.due("room", x.room(), 60 - 3 * put);
        }
    }

    static void promise2OfNothing() {
        Desk x = new Desk();
        x.same("type(0)", "1", d -> d.type(0) ? 1 : 0);
        x.type("* * * * *");
        x.same("type(0) behind a text", "1", d -> d.type(0) ? 1 : 0);
        Checks.due("job()", x.job(0), 0);
    }

    static void promise2SignsFrom32To126() {
        for (int sign = 32; sign <= 126; sign++) {
            Desk x = new Desk();
            Checks.due("type(" + sign + ")", x.type(sign), true);
            Checks.due("room", x.room(), 59);
        }
        Desk x = new Desk();
        Checks.due("type of 32 and 126", x.type(0x7e207e207e207e20L), true);
        Checks.due("room", x.room(), 52);
    }

    static void promise2Sign31AndBelowAreRefused() {
        for (int sign = 1; sign <= 31; sign++) {
            refusedAtEachPlace(sign);
        }
    }

    static void promise2Sign127AndAboveAreRefused() {
        for (int sign : new int[] {127, 128, 129, 160, 170, 254, 255}) {
            refusedAtEachPlace(sign);
        }
    }

    private static void refusedAtEachPlace(long sign) {
        for (int place = 0; place < 8; place++) {
            long row = 0x2a2a2a2a2a2a2a2aL & ~(255L << (8 * place)) | sign << (8 * place);
            Desk x = new Desk();
            Checks.due("type with " + sign + " at " + place, x.type(row), false);
            Checks.due("room", x.room(), 60);
        }
    }

    static void promise2RefusedIsChangingNothing() {
        for (long row : new long[] {31, 0x1f2a, 0x7f20, -1, 0x1f2020202020202aL, 0x802a2a2a2a2a2a2aL}) {
            Desk x = new Desk();
            x.type("* * * * ");
            x.same("type(" + row + ")", "0", d -> d.type(row) ? 1 : 0);
            x.type("*");
            Checks.due("job() of what was there", x.job(0), 0);
        }
    }

    static void promise2SixtyAreTaken() {
        Desk x = new Desk();
        Checks.due("length", SIXTY.length(), 60);
        x.type(SIXTY);
        Checks.due("room", x.room(), 0);
        Checks.due("job() of 60", x.job(0), 0);
        Checks.due("holds(0, 0)", x.holds(0, 0), true);
        Checks.due("holds(0, 20)", x.holds(0, 20), true);
        Checks.due("holds(0, 21)", x.holds(0, 21), false);
    }

    static void promise2A61stIsRefused() {
        Desk x = new Desk();
        x.type(SIXTY);
        x.same("type of a 61st", "0", d -> d.type('*') ? 1 : 0);
        x.same("type of eight more", "0", d -> d.type(0x2a2a2a2a2a2a2a2aL) ? 1 : 0);
        x.same("type of a bad one", "0", d -> d.type(200) ? 1 : 0);
        x.same("type of nothing more", "1", d -> d.type(0) ? 1 : 0);
        Checks.due("job() of 60", x.job(0), 0);
    }

    static void promise2MoreThanSixtyByEachNumber() {
        for (int before = 52; before <= 60; before++) {
            for (int more = 1; more <= 8; more++) {
                Desk x = new Desk();
                for (int i = 0; i < before; i++) {
                    x.type('a');
                }
                long row = more == 8 ? 0x6262626262626262L : 0x6262626262626262L & ~(-1L << (8 * more));
                boolean fits = before + more <= 60;
                Checks.due("type of " + more + " behind " + before, x.type(row), fits);
                Checks.due("room", x.room(), fits ? 60 - before - more : 60 - before);
            }
        }
    }

    static void promise2SixtyAgainWhenEmptied() {
        Desk x = new Desk();
        x.job("* * * * *", 0);
        Checks.due("room behind job()", x.room(), 60);
        x.type(SIXTY);
        x.erase();
        Checks.due("room behind erase()", x.room(), 60);
    }
}
