import java.time.Duration;
import java.time.LocalDateTime;

/** The minutes of the document by the Java library's calendar. */
final class Calendar {
    private static final LocalDateTime FIRST = LocalDateTime.of(2000, 1, 1, 0, 0);

    private Calendar() {
    }

    static int minute(int year, int month, int day, int hour, int minute) {
        return (int) Duration.between(FIRST, LocalDateTime.of(year, month, day, hour, minute)).toMinutes();
    }

    static LocalDateTime of(int minute) {
        return FIRST.plusMinutes(minute);
    }
}
