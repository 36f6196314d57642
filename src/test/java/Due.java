import java.time.LocalDate;
import java.time.temporal.ChronoUnit;

/** Numbers that are due, by java.time. */
final class Due {
    static final int LAST = 3652058;
    static final int LEAST = Integer.MIN_VALUE;
    static final int GREATEST = Integer.MAX_VALUE;

    private static final LocalDate FIRST = LocalDate.of(1, 1, 1);

    private Due() {
    }

    static int number(int year, int month, int day) {
        return (int) ChronoUnit.DAYS.between(FIRST, LocalDate.of(year, month, day));
    }
}
