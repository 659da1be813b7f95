import java.time.LocalDateTime;

/** Promise 10: part, and what the terms say of minutes. */
public final class Promise10PartTest {
    private static final int DAY = 1440;

    public static void main(String[] args) {
        Checks.run(Promise10PartTest.class);
    }

    private static void parts(Desk x, int minute, String want) {
        StringBuilder got = new StringBuilder();
        for (int part = 0; part < 6; part++) {
            got.append(part > 0 ? " " : "").append(x.part(minute, part));
        }
        Checks.due("the parts of " + minute, got.toString(), want);
    }

    private static void parts(Desk x, int minute) {
        LocalDateTime then = Calendar.of(minute);
        parts(x, minute, then.getYear() + " " + then.getMonthValue() + " " + then.getDayOfMonth() + " "
            + then.getHour() + " " + then.getMinute() + " " + then.getDayOfWeek().getValue() % 7);
    }

    static void promise10TheFirstMinute() {
        parts(new Desk(), 0, "2000 1 1 0 0 6");
        parts(new Desk(), 1, "2000 1 1 0 1 6");
    }

    static void promise10TheLastMinute() {
        parts(new Desk(), Checks.LIMIT - 1, "2038 1 9 21 19 6");
    }

    static void promise10OverAnHourAndADay() {
        parts(new Desk(), 59, "2000 1 1 0 59 6");
        parts(new Desk(), 60, "2000 1 1 1 0 6");
        parts(new Desk(), 1439, "2000 1 1 23 59 6");
        parts(new Desk(), 1440, "2000 1 2 0 0 0");
    }

    static void promise10OverAWeek() {
        Desk x = new Desk();
        for (int day = 0; day < 15; day++) {
            Checks.due("weekday of day " + day, x.part(day * DAY + 1439, 5), (day + 6) % 7);
        }
    }

    static void promise10OverEachMonth() {
        int[] days = {31, 29, 31, 30, 31, 30, 31, 31, 30, 31, 30, 31};
        int first = 0;
        Desk x = new Desk();
        for (int month = 1; month <= 12; month++) {
            Checks.due("month of its first", x.part(first, 1), month);
            Checks.due("day of its first", x.part(first, 2), 1);
            int last = first + days[month - 1] * DAY - 1;
            Checks.due("month of its last", x.part(last, 1), month);
            Checks.due("day of its last", x.part(last, 2), days[month - 1]);
            first = last + 1;
        }
        Checks.due("the year behind", x.part(first, 0), 2001);
    }

    static void promise10OverEachFebruaryAndYear() {
        for (int year = 2000; year < 2038; year++) {
            boolean leap = year % 4 == 0;
            int february28 = Calendar.minute(year, 2, 28, 23, 59);
            Desk x = new Desk();
            Checks.due("the day behind 28 February " + year, x.part(february28 + 1, 2), leap ? 29 : 1);
            Checks.due("its month", x.part(february28 + 1, 1), leap ? 2 : 3);
            Checks.due("the day behind that", x.part(february28 + 1 + DAY, 2), leap ? 1 : 2);
            Checks.due("its month", x.part(february28 + 1 + DAY, 1), 3);
            int december31 = Calendar.minute(year, 12, 31, 23, 59);
            Checks.due("the last of " + year, x.part(december31, 0), year);
            Checks.due("its day", x.part(december31, 2), 31);
            Checks.due("the first of the next", x.part(december31 + 1, 0), year + 1);
            Checks.due("its month", x.part(december31 + 1, 1), 1);
            Checks.due("its day", x.part(december31 + 1, 2), 1);
        }
    }

    static void promise10EachDayUpward() {
        for (int first = 0; first < Checks.LIMIT; first += 80 * DAY) {
            Desk x = new Desk();
            for (int day = 0; day < 80 && first + day * DAY < Checks.LIMIT; day++) {
                parts(x, first + day * DAY);
            }
        }
    }

    static void promise10EachDayDownward() {
        for (int first = Checks.LIMIT - 1; first >= 0; first -= 80 * DAY) {
            Desk x = new Desk();
            for (int day = 0; day < 80 && first - day * DAY >= 0; day++) {
                parts(x, first - day * DAY);
            }
        }
    }

    static void promise10InLeaps() {
        int minute = 0;
        for (int objects = 0; objects < 100; objects++) {
            Desk x = new Desk();
            for (int i = 0; i < 80; i++) {
                parts(x, minute);
                minute = (minute + 7654321) % Checks.LIMIT;
            }
        }
    }

    static void promise10OutsideTheMinutes() {
        Desk x = Desk.withJob("* * * * *");
        for (int minute : new int[] {-1, Checks.LIMIT, Checks.LIMIT + 1, Checks.LEAST, Checks.MOST}) {
            for (int part : new int[] {0, 5}) {
                x.argument("part(" + minute + ", " + part + ")", d -> d.part(minute, part));
            }
        }
    }

    static void promise10NoSuchPart() {
        Desk x = Desk.withJob("* * * * *");
        for (int part : new int[] {-1, 6, Checks.LEAST, Checks.MOST}) {
            x.argument("part(0, " + part + ")", d -> d.part(0, part));
            x.argument("part(19999999, " + part + ")", d -> d.part(Checks.LIMIT - 1, part));
            x.argument("part(-1, " + part + ")", d -> d.part(-1, part));
        }
    }

    static void promise10WhateverNowIs() {
        Desk x = new Desk();
        x.set(1000);
        x.down(true);
        x.same("part(0, 0) when it is down", "2000", d -> d.part(0, 0));
        x.same("part(19999999, 0) when it is down", "2038", d -> d.part(Checks.LIMIT - 1, 0));
    }
}
