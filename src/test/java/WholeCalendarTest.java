import java.time.LocalDate;
import java.time.temporal.ChronoUnit;
import java.time.temporal.IsoFields;

/** Every day of the years 1 to 9999, and Easter of every year, against another way to have them. */
public final class WholeCalendarTest {
    private static final LocalDate FIRST = LocalDate.of(1, 1, 1);
    private static final LocalDate LAST = LocalDate.of(9999, 12, 31);

    public static void main(String[] args) {
        CivilDays x = new CivilDays();
        int number = 0;
        for (LocalDate d = FIRST; !d.isAfter(LAST); d = d.plusDays(1)) {
            // Nothing is promised of an object behind its 512th call, and a day takes 13.
            if (d.getDayOfMonth() == 1) {
                x = new CivilDays();
            }
            oneDay(x, number, d);
            number++;
        }
        Check.same("so many days", number, 3652059);
        for (int year = 1583; year <= 9999; year++) {
            Check.same("easter " + year, new CivilDays().easter(0, year), numberOf(Model.easterOf(year)));
        }
        Check.finish();
    }

    private static int numberOf(LocalDate d) {
        return (int) ChronoUnit.DAYS.between(FIRST, d);
    }

    private static void oneDay(CivilDays x, int number, LocalDate d) {
        int weekday = d.getDayOfWeek().getValue();
        int weekYear = d.get(IsoFields.WEEK_BASED_YEAR);
        int week = d.get(IsoFields.WEEK_OF_WEEK_BASED_YEAR);
        needs(number, "civil", x.civil(0, d.getYear(), d.getMonthValue(), d.getDayOfMonth()), number);
        needs(number, "week", x.week(0, weekYear, week, weekday), number);
        needs(number, "days", x.days(0, number), weekday);
        needs(number, "year", x.told(0, 1), d.getYear());
        needs(number, "month", x.told(0, 2), d.getMonthValue());
        needs(number, "day", x.told(0, 3), d.getDayOfMonth());
        needs(number, "weekday", x.told(0, 4), weekday);
        needs(number, "week's year", x.told(0, 5), weekYear);
        needs(number, "week's number", x.told(0, 6), week);
        needs(number, "day of the year", x.told(0, 7), d.getDayOfYear());
        needs(number, "leap", x.told(0, 8), d.isLeapYear() ? 1 : 0);
        needs(number, "days of the month", x.told(0, 9), d.lengthOfMonth());
        needs(number, "weeks", x.told(0, 10),
                (int) IsoFields.WEEK_OF_WEEK_BASED_YEAR.rangeRefinedBy(d).getMaximum());
    }

    /** Joins the text only for a wrong answer, as there are many millions. */
    private static void needs(int number, String what, int got, int want) {
        Check.same(got == want ? what : what + " of " + number, got, want);
    }
}
