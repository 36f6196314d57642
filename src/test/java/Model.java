import java.time.DayOfWeek;
import java.time.LocalDate;
import java.time.Year;
import java.time.YearMonth;
import java.time.temporal.ChronoUnit;
import java.time.temporal.IsoFields;
import java.util.ArrayList;
import java.util.Arrays;
import java.util.List;
import java.util.regex.Matcher;
import java.util.regex.Pattern;

/** The document done a second way, over java.time and plain searching, for comparison alone. */
final class Model {
    private static final LocalDate FIRST = LocalDate.of(1, 1, 1);
    private static final LocalDate LAST = LocalDate.of(9999, 12, 31);
    private static final Pattern[] TEXTS = {
        Pattern.compile("([0-9]{4})-([0-9]{2})-([0-9]{2})"),
        Pattern.compile("([0-9]{4})-W([0-9]{2})-([0-9])"),
        Pattern.compile("([0-9]{4})-([0-9]{3})"),
    };

    private final LocalDate[] slots = new LocalDate[10];
    private final List<int[]> rules = new ArrayList<>();
    private String written = "";
    private String typed = "";
    private int weekend = 96;

    static int numberOf(LocalDate d) {
        return (int) ChronoUnit.DAYS.between(FIRST, d);
    }

    /** Easter by the rule of Meeus, Jones and Butcher. */
    static LocalDate easterOf(int year) {
        int a = year % 19;
        int b = year / 100;
        int c = year % 100;
        int g = (b - (b + 8) / 25 + 1) / 3;
        int h = (19 * a + b - b / 4 - g + 15) % 30;
        int l = (32 + 2 * (b % 4) + 2 * (c / 4) - h - c % 4) % 7;
        int m = (a + 11 * h + 22 * l) / 451;
        int sum = h + l - 7 * m + 114;
        return LocalDate.of(year, sum / 31, sum % 31 + 1);
    }

    int civil(int slot, int year, int month, int day) {
        return store(slot, civilDate(year, month, day));
    }

    int days(int slot, int number) {
        boolean fine = number >= 0 && number <= numberOf(LAST);
        store(slot, fine ? FIRST.plusDays(number) : null);
        return slots[slot].getDayOfWeek().getValue();
    }

    int week(int slot, int year, int week, int weekday) {
        return store(slot, weekDate(year, week, weekday));
    }

    int easter(int slot, int year) {
        return store(slot, year >= 1583 && year <= 9999 ? easterOf(year) : null);
    }

    int nth(int slot, int year, int month, int weekday, int n) {
        boolean fine = year >= 1 && year <= 9999 && month >= 1 && month <= 12;
        return store(slot, fine ? nthDate(year, month, weekday, n) : null);
    }

    int move(int slot, int many, int unit) {
        inSlots(slot);
        wants(unit >= 0 && unit <= 2);
        LocalDate d = date(slot);
        // Nothing within the years is this far off, and java.time can reach it.
        long far = Math.max(-5_000_000, Math.min(5_000_000, many));
        LocalDate moved = unit == 0 ? d.plusDays(far) : unit == 1 ? d.plusMonths(far) : d.plusYears(far);
        if (moved.isBefore(FIRST) || moved.isAfter(LAST)) {
            throw new UnsupportedOperationException();
        }
        return store(slot, moved);
    }

    int told(int slot, int what) {
        inSlots(slot);
        wants(what >= 0 && what <= 10);
        LocalDate d = date(slot);
        int[] all = {
            numberOf(d), d.getYear(), d.getMonthValue(), d.getDayOfMonth(),
            d.getDayOfWeek().getValue(), d.get(IsoFields.WEEK_BASED_YEAR),
            d.get(IsoFields.WEEK_OF_WEEK_BASED_YEAR), d.getDayOfYear(), d.isLeapYear() ? 1 : 0,
            d.lengthOfMonth(),
            (int) IsoFields.WEEK_OF_WEEK_BASED_YEAR.rangeRefinedBy(d).getMaximum(),
        };
        return all[what];
    }

    int between(int slot, int other, int unit) {
        inSlots(slot);
        inSlots(other);
        wants(unit >= 0 && unit <= 2);
        LocalDate a = date(slot);
        LocalDate b = date(other);
        return b.isBefore(a) ? -whole(b, a, unit) : whole(a, b, unit);
    }

    int copy(int from, int to) {
        inSlots(from);
        inSlots(to);
        return store(to, date(from));
    }

    int holiday(int kind, int a, int b, int c) {
        switch (kind) {
            case 0:
            case 3: wants(civilDate(2400, a, b) != null); break;
            case 1: wants(a >= -100 && a <= 100); break;
            case 2: wants(a >= 1 && a <= 12 && b >= 1 && b <= 7 && c >= -1 && c <= 4 && c != 0); break;
            default: wants(false);
        }
        if (rules.size() == 12) {
            throw new UnsupportedOperationException();
        }
        rules.add(new int[] {kind, a, b, c});
        return rules.size();
    }

    int noHoliday(int k) {
        if (k < 0 || k >= rules.size()) {
            throw new IndexOutOfBoundsException();
        }
        rules.remove(k);
        return rules.size();
    }

    int weekend(int set) {
        wants(set >= 0 && set <= 126);
        int before = weekend;
        weekend = set;
        return before;
    }

    int isHoliday(int slot) {
        inSlots(slot);
        return firstRule(date(slot));
    }

    int work(int slot, int other) {
        inSlots(slot);
        inSlots(other);
        LocalDate a = date(slot);
        LocalDate b = date(other);
        wants(Math.abs(ChronoUnit.DAYS.between(a, b)) <= 4000);
        return b.isBefore(a) ? -workingDays(b, a) : workingDays(a, b);
    }

    int moveWork(int slot, int many) {
        inSlots(slot);
        LocalDate d = date(slot);
        wants(many >= -1000 && many <= 1000);
        for (int i = 0; i < Math.abs(many); i++) {
            do {
                d = d.plusDays(many < 0 ? -1 : 1);
                if (d.isBefore(FIRST) || d.isAfter(LAST)) {
                    throw new UnsupportedOperationException();
                }
            } while (!isWorking(d));
        }
        return store(slot, d);
    }

    int write(int slot, int text) {
        inSlots(slot);
        wants(text >= 0 && text <= 2);
        LocalDate d = date(slot);
        if (text == 0) {
            written = d.toString();
        } else if (text == 1) {
            written = String.format("%04d-W%02d-%d", told(slot, 5), told(slot, 6), told(slot, 4));
        } else {
            written = String.format("%04d-%03d", d.getYear(), d.getDayOfYear());
        }
        return written.length();
    }

    int charAt(int i) {
        if (i < 0 || i >= written.length()) {
            throw new IndexOutOfBoundsException();
        }
        return written.charAt(i);
    }

    int type(int c) {
        wants(c >= 32 && c <= 126);
        if (typed.length() == 20) {
            throw new UnsupportedOperationException();
        }
        typed += (char) c;
        return typed.length();
    }

    int read(int slot) {
        inSlots(slot);
        String s = typed;
        typed = "";
        for (int text = 0; text < TEXTS.length; text++) {
            Matcher m = TEXTS[text].matcher(s);
            if (m.matches()) {
                LocalDate d = readDate(text, m);
                if (d == null) {
                    return -30;
                }
                slots[slot] = d;
                return text;
            }
        }
        int place = 0;
        while (place < s.length() && canBegin(s.substring(0, place + 1))) {
            place++;
        }
        return -1 - place;
    }

    int clear() {
        Arrays.fill(slots, null);
        rules.clear();
        written = "";
        typed = "";
        weekend = 96;
        return 0;
    }

    private static void inSlots(int slot) {
        if (slot < 0 || slot > 9) {
            throw new IndexOutOfBoundsException();
        }
    }

    private static void wants(boolean fine) {
        if (!fine) {
            throw new IllegalArgumentException();
        }
    }

    private LocalDate date(int slot) {
        if (slots[slot] == null) {
            throw new IllegalStateException();
        }
        return slots[slot];
    }

    private int store(int slot, LocalDate d) {
        inSlots(slot);
        wants(d != null);
        slots[slot] = d;
        return numberOf(d);
    }

    private static LocalDate civilDate(int year, int month, int day) {
        if (year < 1 || year > 9999 || month < 1 || month > 12 || day < 1) {
            return null;
        }
        return day > YearMonth.of(year, month).lengthOfMonth() ? null : LocalDate.of(year, month, day);
    }

    /** Searches the days about the year for the one that has these numbers. */
    private static LocalDate weekDate(int year, int week, int weekday) {
        if (year < 1 || year > 9999) {
            return null;
        }
        LocalDate start = LocalDate.of(year, 1, 1).minusDays(4);
        for (int i = 0; i < 380; i++) {
            LocalDate d = start.plusDays(i);
            if (d.get(IsoFields.WEEK_BASED_YEAR) == year
                    && d.get(IsoFields.WEEK_OF_WEEK_BASED_YEAR) == week
                    && d.getDayOfWeek().getValue() == weekday) {
                return d.isAfter(LAST) ? null : d;
            }
        }
        return null;
    }

    private static LocalDate nthDate(int year, int month, int weekday, int n) {
        List<LocalDate> all = new ArrayList<>();
        YearMonth whole = YearMonth.of(year, month);
        for (int day = 1; day <= whole.lengthOfMonth(); day++) {
            if (whole.atDay(day).getDayOfWeek().getValue() == weekday) {
                all.add(whole.atDay(day));
            }
        }
        long place = n > 0 ? (long) n - 1 : (long) all.size() + n;
        return n == 0 || place < 0 || place >= all.size() ? null : all.get((int) place);
    }

    /** The greatest number so that the first date moved by it is not beyond the other one. */
    private static int whole(LocalDate a, LocalDate b, int unit) {
        ChronoUnit by = unit == 0 ? ChronoUnit.DAYS : unit == 1 ? ChronoUnit.MONTHS : ChronoUnit.YEARS;
        int many = (int) Math.max(0, by.between(a, b) - 3);
        while (!a.plus(many + 1, by).isAfter(b)) {
            many++;
        }
        return many;
    }

    private int firstRule(LocalDate d) {
        for (int k = 0; k < rules.size(); k++) {
            for (int year = d.getYear() - 1; year <= d.getYear() + 1; year++) {
                if (year >= 1 && year <= 9999 && d.equals(ruleDate(rules.get(k), year))) {
                    return k;
                }
            }
        }
        return -1;
    }

    private static LocalDate ruleDate(int[] rule, int year) {
        LocalDate fixed = rule[0] == 0 || rule[0] == 3 ? civilDate(year, rule[1], rule[2]) : null;
        switch (rule[0]) {
            case 0: return fixed;
            case 1: return year < 1583 ? null : easterOf(year).plusDays(rule[1]);
            case 2: return nthDate(year, rule[1], rule[2], rule[3]);
            default:
                if (fixed != null && fixed.getDayOfWeek() == DayOfWeek.SATURDAY) {
                    return fixed.minusDays(1);
                }
                return fixed != null && fixed.getDayOfWeek() == DayOfWeek.SUNDAY ? fixed.plusDays(1) : fixed;
        }
    }

    private boolean isWorking(LocalDate d) {
        int bit = 1 << (d.getDayOfWeek().getValue() - 1);
        return (weekend & bit) == 0 && firstRule(d) == -1;
    }

    private int workingDays(LocalDate a, LocalDate b) {
        int many = 0;
        for (LocalDate d = a; d.isBefore(b); d = d.plusDays(1)) {
            many += isWorking(d) ? 1 : 0;
        }
        return many;
    }

    private static boolean canBegin(String s) {
        for (Pattern text : TEXTS) {
            Matcher m = text.matcher(s);
            if (m.matches() || m.hitEnd()) {
                return true;
            }
        }
        return false;
    }

    private static LocalDate readDate(int text, Matcher m) {
        int year = Integer.parseInt(m.group(1));
        int second = Integer.parseInt(m.group(2));
        if (text == 0) {
            return civilDate(year, second, Integer.parseInt(m.group(3)));
        }
        if (text == 1) {
            return weekDate(year, second, Integer.parseInt(m.group(3)));
        }
        boolean fine = year >= 1 && second >= 1 && second <= Year.of(year).length();
        return fine ? LocalDate.ofYearDay(year, second) : null;
    }
}
