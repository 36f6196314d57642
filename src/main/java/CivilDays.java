import java.util.ArrayList;
import java.util.Arrays;

/**
 * Dates of the calendar that is in common use, in ten slots: told by months, weeks and days of
 * the year; moved by days, months and working days; read from and written as text.
 */
public final class CivilDays {
    public static final int NONE = -1;

    private static final int SLOTS = 10;
    private static final int MOST_RULES = 12;
    private static final int SATURDAY_AND_SUNDAY = 96;
    private static final int GREATEST_WEEKEND = 126;
    private static final int MOST_DAYS_COUNTED = 4000;
    private static final int MOST_WORKING_DAYS_MOVED = 1000;

    private static final int BY_DAYS = 0;
    private static final int BY_MONTHS = 1;
    private static final int BY_YEARS = 2;

    private static final int CIVIL_TEXT = 0;
    private static final int WEEK_TEXT = 1;
    private static final int YEAR_DAY_TEXT = 2;
    private static final int READ_NO_DATE = -30;

    private final int[] slots = new int[SLOTS];
    private final ArrayList<Rule> rules = new ArrayList<Rule>();
    private final MarkedYear marked = new MarkedYear();
    private final Line written = new Line();
    private final Line typed = new Line();
    private int weekendSet;

    public CivilDays() {
        clear();
    }

    public int civil(int slot, int year, int month, int day)
            throws IndexOutOfBoundsException, IllegalArgumentException {
        needSlot(slot);
        return keep(slot, Calendar.civilNumber(year, month, day));
    }

    public int days(int slot, int number)
            throws IndexOutOfBoundsException, IllegalArgumentException {
        needSlot(slot);
        return Calendar.weekdayOf(keep(slot, Calendar.isNumber(number) ? number : NONE));
    }

    public int week(int slot, int year, int week, int weekday)
            throws IndexOutOfBoundsException, IllegalArgumentException {
        needSlot(slot);
        return keep(slot, Calendar.weekNumber(year, week, weekday));
    }

    public int easter(int slot, int year)
            throws IndexOutOfBoundsException, IllegalArgumentException {
        needSlot(slot);
        return keep(slot, Calendar.easterNumber(year));
    }

    public int nth(int slot, int year, int month, int weekday, int n)
            throws IndexOutOfBoundsException, IllegalArgumentException {
        needSlot(slot);
        return keep(slot, Calendar.nthNumber(year, month, weekday, n));
    }

    public int move(int slot, int many, int unit)
            throws IndexOutOfBoundsException, IllegalArgumentException, IllegalStateException,
            UnsupportedOperationException {
        needSlot(slot);
        needUnit(unit);
        int number = moved(dateIn(slot), many, unit);
        if (number == NONE) {
            throw new UnsupportedOperationException("the date is beyond the years");
        }
        return keep(slot, number);
    }

    public int told(int slot, int what)
            throws IndexOutOfBoundsException, IllegalArgumentException, IllegalStateException {
        needSlot(slot);
        if (what < 0 || what > 10) {
            throw new IllegalArgumentException("nothing of a date is told by this number");
        }
        int number = dateIn(slot);
        int year = Calendar.yearOf(number);
        switch (what) {
            case 0: return number;
            case 1: return year;
            case 2: return Calendar.monthOf(number);
            case 3: return Calendar.dayOf(number);
            case 4: return Calendar.weekdayOf(number);
            case 5: return Calendar.weekYearOf(number);
            case 6: return Calendar.weekOf(number);
            case 7: return Calendar.yearDayOf(number);
            case 8: return Calendar.isLeap(year) ? 1 : 0;
            case 9: return Calendar.monthLength(year, Calendar.monthOf(number));
            default: return Calendar.weeksIn(Calendar.weekYearOf(number));
        }
    }

    public int between(int slot, int other, int unit)
            throws IndexOutOfBoundsException, IllegalArgumentException, IllegalStateException {
        needSlot(slot);
        needSlot(other);
        needUnit(unit);
        int from = dateIn(slot);
        int to = dateIn(other);
        return to < from ? -wholeUnits(to, from, unit) : wholeUnits(from, to, unit);
    }

    public int copy(int from, int to) throws IndexOutOfBoundsException, IllegalStateException {
        needSlot(from);
        needSlot(to);
        return keep(to, dateIn(from));
    }

    public int holiday(int kind, int a, int b, int c)
            throws IllegalArgumentException, UnsupportedOperationException {
        if (!Rule.isRule(kind, a, b, c)) {
            throw new IllegalArgumentException("there is no such rule");
        }
        if (rules.size() >= MOST_RULES) {
            throw new UnsupportedOperationException("there are as many rules as there may be");
        }
        rules.add(new Rule(kind, a, b, c));
        return rules.size();
    }

    public int noHoliday(int k) throws IndexOutOfBoundsException {
        if (k < 0 || k >= rules.size()) {
            throw new IndexOutOfBoundsException("there is no such rule");
        }
        rules.remove(k);
        return rules.size();
    }

    public int weekend(int set) throws IllegalArgumentException {
        if (set < 0 || set > GREATEST_WEEKEND) {
            throw new IllegalArgumentException("this is no weekend");
        }
        int before = weekendSet;
        weekendSet = set;
        return before;
    }

    public int isHoliday(int slot) throws IndexOutOfBoundsException, IllegalStateException {
        needSlot(slot);
        int number = dateIn(slot);
        for (int k = 0; k < rules.size(); k++) {
            if (rules.get(k).givesDay(number)) {
                return k;
            }
        }
        return NONE;
    }

    public int work(int slot, int other)
            throws IndexOutOfBoundsException, IllegalStateException, IllegalArgumentException {
        needSlot(slot);
        needSlot(other);
        int from = dateIn(slot);
        int to = dateIn(other);
        if (Math.abs(to - from) > MOST_DAYS_COUNTED) {
            throw new IllegalArgumentException("the dates are too far from each other");
        }
        int later = Math.max(from, to);
        int many = 0;
        marked.forget();
        for (int number = Math.min(from, to); number < later; number++) {
            if (isWorking(number)) {
                many++;
            }
        }
        return to < from ? -many : many;
    }

    public int moveWork(int slot, int many)
            throws IndexOutOfBoundsException, IllegalStateException, IllegalArgumentException,
            UnsupportedOperationException {
        needSlot(slot);
        int number = dateIn(slot);
        if (many < -MOST_WORKING_DAYS_MOVED || many > MOST_WORKING_DAYS_MOVED) {
            throw new IllegalArgumentException("this is too far to move by working days");
        }
        int step = many < 0 ? -1 : 1;
        int left = Math.abs(many);
        marked.forget();
        while (left > 0 && Calendar.isNumber(number + step)) {
            number += step;
            if (isWorking(number)) {
                left--;
            }
        }
        if (left > 0) {
            throw new UnsupportedOperationException("the date is beyond the years");
        }
        return keep(slot, number);
    }

    public int write(int slot, int text)
            throws IndexOutOfBoundsException, IllegalArgumentException, IllegalStateException {
        needSlot(slot);
        if (text < CIVIL_TEXT || text > YEAR_DAY_TEXT) {
            throw new IllegalArgumentException("there is no such text");
        }
        int number = dateIn(slot);
        written.empty();
        switch (text) {
            case CIVIL_TEXT: putCivil(number); break;
            case WEEK_TEXT: putWeek(number); break;
            default: putYearDay(number); break;
        }
        return written.size();
    }

    public int charAt(int i) throws IndexOutOfBoundsException {
        if (i < 0 || i >= written.size()) {
            throw new IndexOutOfBoundsException("there is no such character");
        }
        return written.at(i);
    }

    public int type(int c) throws IllegalArgumentException, UnsupportedOperationException {
        if (c < 32 || c > 126) {
            throw new IllegalArgumentException("this is no character that can be typed");
        }
        if (typed.isFull()) {
            throw new UnsupportedOperationException("as much is typed as may be");
        }
        typed.add(c);
        return typed.size();
    }

    public int read(int slot) throws IndexOutOfBoundsException {
        needSlot(slot);
        int text = typedText();
        int number = text < 0 ? NONE : typedNumber(text);
        typed.empty();
        if (text >= 0 && number == NONE) {
            return READ_NO_DATE;
        }
        if (text >= 0) {
            slots[slot] = number;
        }
        return text;
    }

    public void clear() {
        Arrays.fill(slots, NONE);
        rules.clear();
        written.empty();
        typed.empty();
        weekendSet = SATURDAY_AND_SUNDAY;
    }

    private static void needSlot(int slot) {
        if (slot < 0 || slot >= SLOTS) {
            throw new IndexOutOfBoundsException("there is no such slot");
        }
    }

    private static void needUnit(int unit) {
        if (unit < BY_DAYS || unit > BY_YEARS) {
            throw new IllegalArgumentException("there is no such unit");
        }
    }

    private int dateIn(int slot) {
        int number = slots[slot];
        if (number == NONE) {
            throw new IllegalStateException("the slot has no date");
        }
        return number;
    }

    private int keep(int slot, int number) {
        if (number == NONE) {
            throw new IllegalArgumentException("there is no such date");
        }
        slots[slot] = number;
        return number;
    }

    private static int moved(int number, int many, int unit) {
        switch (unit) {
            case BY_DAYS: return Calendar.movedByDays(number, many);
            case BY_MONTHS: return Calendar.movedByMonths(number, many);
            default: return Calendar.movedByMonths(number, 12L * many);
        }
    }

    private static int wholeUnits(int from, int to, int unit) {
        switch (unit) {
            case BY_DAYS: return to - from;
            case BY_MONTHS: return Calendar.monthsBetween(from, to);
            default: return Calendar.monthsBetween(from, to) / 12;
        }
    }

    private boolean isWorking(int number) {
        if ((weekendSet >> (Calendar.weekdayOf(number) - 1) & 1) == 1) {
            return false;
        }
        if (!marked.covers(number)) {
            marked.mark(Calendar.yearOf(number), rules);
        }
        return !marked.isMarked(number);
    }

    private void putCivil(int number) {
        written.addDigits(Calendar.yearOf(number), 1000);
        written.add('-');
        written.addDigits(Calendar.monthOf(number), 10);
        written.add('-');
        written.addDigits(Calendar.dayOf(number), 10);
    }

    private void putWeek(int number) {
        written.addDigits(Calendar.weekYearOf(number), 1000);
        written.add('-');
        written.add('W');
        written.addDigits(Calendar.weekOf(number), 10);
        written.add('-');
        written.addDigits(Calendar.weekdayOf(number), 1);
    }

    private void putYearDay(int number) {
        written.addDigits(Calendar.yearOf(number), 1000);
        written.add('-');
        written.addDigits(Calendar.yearDayOf(number), 100);
    }

    /** Which text was typed; -1 less the place where it stops being any. */
    private int typedText() {
        int furthest = 0;
        for (int text = CIVIL_TEXT; text <= YEAR_DAY_TEXT; text++) {
            String pattern = patternOf(text);
            int fitting = typed.fitting(pattern);
            if (fitting == pattern.length() && fitting == typed.size()) {
                return text;
            }
            furthest = Math.max(furthest, fitting);
        }
        return -1 - furthest;
    }

    private static String patternOf(int text) {
        switch (text) {
            case CIVIL_TEXT: return "0000-00-00";
            case WEEK_TEXT: return "0000-W00-0";
            default: return "0000-000";
        }
    }

    private int typedNumber(int text) {
        int year = typed.digits(0, 4);
        switch (text) {
            case CIVIL_TEXT: return Calendar.civilNumber(year, typed.digits(5, 2), typed.digits(8, 2));
            case WEEK_TEXT: return Calendar.weekNumber(year, typed.digits(6, 2), typed.digits(9, 1));
            default: return Calendar.yearDayNumber(year, typed.digits(5, 3));
        }
    }

    /**
     * The calendar itself. The functions that make a date's number answer NONE where there is no
     * such date; those that tell something of a number want one of 0 .. LAST_NUMBER.
     */
    private static final class Calendar {
        static final int LAST_YEAR = 9999;
        static final int LAST_NUMBER = 3652058;
        static final int FIRST_EASTER_YEAR = 1583;
        static final int SATURDAY = 6;
        static final int SUNDAY = 7;

        static boolean isNumber(long number) {
            return number >= 0 && number <= LAST_NUMBER;
        }

        static boolean isYear(int year) {
            return year >= 1 && year <= LAST_YEAR;
        }

        static boolean isMonth(int month) {
            return month >= 1 && month <= 12;
        }

        static boolean isWeekday(int weekday) {
            return weekday >= 1 && weekday <= 7;
        }

        static boolean isLeap(int year) {
            return year % 4 == 0 && (year % 100 != 0 || year % 400 == 0);
        }

        static int yearLength(int year) {
            return isLeap(year) ? 366 : 365;
        }

        static int monthLength(int year, int month) {
            if (month == 2) {
                return isLeap(year) ? 29 : 28;
            }
            return month == 4 || month == 6 || month == 9 || month == 11 ? 30 : 31;
        }

        static int yearStart(int year) {
            int before = year - 1;
            return 365 * before + before / 4 - before / 100 + before / 400;
        }

        static int monthStart(int year, int month) {
            // The quotient counts the days before the month as if February had 30.
            int before = (367 * month - 362) / 12;
            if (month > 2) {
                before -= isLeap(year) ? 1 : 2;
            }
            return yearStart(year) + before;
        }

        static int firstMonday(int year) {
            // The first Thursday is one of January 1 .. 7, so its week always has January 4.
            int fourth = yearStart(year) + 3;
            return fourth - fourth % 7;
        }

        static int weeksIn(int year) {
            return (firstMonday(year + 1) - firstMonday(year)) / 7;
        }

        static int civilNumber(int year, int month, int day) {
            if (!isYear(year) || !isMonth(month) || day < 1 || day > monthLength(year, month)) {
                return NONE;
            }
            return monthStart(year, month) + day - 1;
        }

        static int yearDayNumber(int year, int day) {
            if (!isYear(year) || day < 1 || day > yearLength(year)) {
                return NONE;
            }
            return yearStart(year) + day - 1;
        }

        static int weekNumber(int year, int week, int weekday) {
            if (!isYear(year) || !isWeekday(weekday) || week < 1 || week > weeksIn(year)) {
                return NONE;
            }
            int number = firstMonday(year) + 7 * (week - 1) + weekday - 1;
            return isNumber(number) ? number : NONE;
        }

        static int easterNumber(int year) {
            if (year < FIRST_EASTER_YEAR || year > LAST_YEAR) {
                return NONE;
            }
            int g = year % 19;
            int c = year / 100;
            int h = (c - c / 4 - (8 * c + 13) / 25 + 19 * g + 15) % 30;
            int i = h == 29 ? 28 : h == 28 && g > 10 ? 27 : h;
            int march21 = monthStart(year, 3) + 20;
            return onOrBehind(march21 + i + 1, SUNDAY);
        }

        static int nthNumber(int year, int month, int weekday, int n) {
            if (!isYear(year) || !isMonth(month) || !isWeekday(weekday)) {
                return NONE;
            }
            // No month has a weekday six times, and 7 * n must not wrap around into the month.
            if (n == 0 || n < -5 || n > 5) {
                return NONE;
            }
            int first = monthStart(year, month);
            int last = first + monthLength(year, month) - 1;
            int number = n > 0
                    ? onOrBehind(first, weekday) + 7 * (n - 1)
                    : onOrBehind(last - 6, weekday) + 7 * (n + 1);
            return number < first || number > last ? NONE : number;
        }

        static int onOrBehind(int number, int weekday) {
            return number + (weekday - weekdayOf(number) + 7) % 7;
        }

        static int weekdayOf(int number) {
            return number % 7 + 1;
        }

        static int yearOf(int number) {
            int rest = number % 146097;
            // Without the bound of 3 the last day of 400 years would be of a fifth century, and
            // that of four years of a fifth year.
            int centuries = Math.min(rest / 36524, 3);
            rest -= 36524 * centuries;
            int fours = rest / 1461;
            rest -= 1461 * fours;
            int ones = Math.min(rest / 365, 3);
            return 400 * (number / 146097) + 100 * centuries + 4 * fours + ones + 1;
        }

        static int monthOf(int number) {
            int year = yearOf(number);
            int month = 12;
            while (month > 1 && number < monthStart(year, month)) {
                month--;
            }
            return month;
        }

        static int dayOf(int number) {
            return number - monthStart(yearOf(number), monthOf(number)) + 1;
        }

        static int yearDayOf(int number) {
            return number - yearStart(yearOf(number)) + 1;
        }

        static int weekYearOf(int number) {
            // A week's Thursday is a date of the years for all of them: the first day of year 1
            // is a Monday, the last one of year 9999 a Friday.
            int thursday = number - number % 7 + 3;
            return yearOf(thursday);
        }

        static int weekOf(int number) {
            return (number - firstMonday(weekYearOf(number))) / 7 + 1;
        }

        static int movedByDays(int number, int many) {
            long moved = (long) number + many;
            return isNumber(moved) ? (int) moved : NONE;
        }

        static int movedByMonths(int number, long many) {
            long months = 12L * (yearOf(number) - 1) + monthOf(number) - 1 + many;
            if (months < 0 || months >= 12L * LAST_YEAR) {
                return NONE;
            }
            int year = (int) (months / 12) + 1;
            int month = (int) (months % 12) + 1;
            int day = Math.min(dayOf(number), monthLength(year, month));
            return monthStart(year, month) + day - 1;
        }

        /** The whole months from a date to another one that is not before it. */
        static int monthsBetween(int from, int to) {
            int months = 12 * (yearOf(to) - yearOf(from)) + monthOf(to) - monthOf(from);
            return movedByMonths(from, months) > to ? months - 1 : months;
        }
    }

    /** A rule for holidays; it gives one day for a year, or none. */
    private static final class Rule {
        static final int FIXED = 0;
        static final int BY_EASTER = 1;
        static final int NTH_WEEKDAY = 2;
        static final int OBSERVED = 3;
        static final int FURTHEST_FROM_EASTER = 100;
        static final int SOME_LEAP_YEAR = 2000;

        final int kind;
        final int a;
        final int b;
        final int c;

        Rule(int kind, int a, int b, int c) {
            this.kind = kind;
            this.a = a;
            this.b = b;
            this.c = c;
        }

        static boolean isRule(int kind, int a, int b, int c) {
            switch (kind) {
                case FIXED:
                case OBSERVED:
                    return Calendar.civilNumber(SOME_LEAP_YEAR, a, b) != NONE;
                case BY_EASTER:
                    return a >= -FURTHEST_FROM_EASTER && a <= FURTHEST_FROM_EASTER;
                case NTH_WEEKDAY:
                    return Calendar.isMonth(a) && Calendar.isWeekday(b)
                            && (c == -1 || c >= 1 && c <= 4);
                default:
                    return false;
            }
        }

        boolean givesDay(int number) {
            int year = Calendar.yearOf(number);
            // A rule's day for a year may be of the year before it or behind it.
            return dayFor(year) == number || dayFor(year - 1) == number || dayFor(year + 1) == number;
        }

        int dayFor(int year) {
            switch (kind) {
                case FIXED: return Calendar.civilNumber(year, a, b);
                case BY_EASTER: return behindEaster(Calendar.easterNumber(year));
                case NTH_WEEKDAY: return Calendar.nthNumber(year, a, b, c);
                default: return observed(Calendar.civilNumber(year, a, b));
            }
        }

        int behindEaster(int easter) {
            return easter == NONE ? NONE : easter + a;
        }

        static int observed(int number) {
            if (number == NONE) {
                return NONE;
            }
            switch (Calendar.weekdayOf(number)) {
                case Calendar.SATURDAY: return number - 1;
                case Calendar.SUNDAY: return number + 1;
                default: return number;
            }
        }
    }

    /** The holidays of one year, so that a walk over many days asks the rules once a year. */
    private static final class MarkedYear {
        static final int LONGEST = 366;

        final int[] marks = new int[LONGEST];
        int first = 0;
        int length = 0;

        /** To be called before each walk, as the rules may have changed since the last one. */
        void forget() {
            length = 0;
        }

        boolean covers(int number) {
            return number >= first && number - first < length;
        }

        boolean isMarked(int number) {
            return covers(number) && marks[number - first] == 1;
        }

        void mark(int year, ArrayList<Rule> rules) {
            first = Calendar.yearStart(year);
            length = Calendar.yearLength(year);
            Arrays.fill(marks, 0);
            for (int k = 0; k < rules.size(); k++) {
                Rule rule = rules.get(k);
                markDay(rule.dayFor(year - 1));
                markDay(rule.dayFor(year));
                markDay(rule.dayFor(year + 1));
            }
        }

        void markDay(int number) {
            if (covers(number)) {
                marks[number - first] = 1;
            }
        }
    }

    /** A row of characters, used again for each text. */
    private static final class Line {
        static final int ROOM = 20;

        final int[] characters = new int[ROOM];
        int length = 0;

        int size() {
            return length;
        }

        boolean isFull() {
            return length >= ROOM;
        }

        void empty() {
            length = 0;
        }

        void add(int c) {
            if (length < ROOM) {
                characters[length] = c;
                length++;
            }
        }

        /** Adds the digits of a value, from that of the given power of ten down to the ones. */
        void addDigits(int value, int highest) {
            for (int unit = highest; unit > 0; unit /= 10) {
                add('0' + value / unit % 10);
            }
        }

        int at(int i) {
            return i >= 0 && i < length ? characters[i] : NONE;
        }

        /** How many characters from the first one on are as the pattern wants, 0 being any digit. */
        int fitting(String pattern) {
            int most = Math.min(length, pattern.length());
            int many = 0;
            while (many < most && fits(at(many), pattern.charAt(many))) {
                many++;
            }
            return many;
        }

        static boolean fits(int c, char wanted) {
            return wanted == '0' ? c >= '0' && c <= '9' : c == wanted;
        }

        /** The value of so many digits; they must be there. */
        int digits(int from, int many) {
            int value = 0;
            for (int i = from; i < from + many; i++) {
                value = 10 * value + at(i) - '0';
            }
            return value;
        }
    }
}
