import java.time.LocalDate;
import java.time.YearMonth;

/** Promises 11, 12 and 14: rules come and go, and tell which days are holidays. */
final class HolidaySentences {
    private HolidaySentences() {
    }

    static void run() {
        holiday();
        holidayRefused();
        holidayNumbers();
        noHoliday();
        isHoliday();
        fixedDays();
        daysByEaster();
        nthWeekdays();
        observedDays();
        observedAtTheYearsEnds();
    }

    private static void needsRule(int kind, int a, int b, int c) {
        Check.same(text(kind, a, b, c), new CivilDays().holiday(kind, a, b, c), 1);
    }

    private static void noRule(int kind, int a, int b, int c) {
        Laden.refuses(() -> Laden.object(3, "2"), text(kind, a, b, c), Check.NO_ARGUMENT,
                x -> x.holiday(kind, a, b, c));
    }

    private static String text(int kind, int a, int b, int c) {
        return "holiday(" + kind + ", " + a + ", " + b + ", " + c + ")";
    }

    private static void holiday() {
        Sentences.test(11, "A RULE more: how many.", () -> {
            CivilDays x = new CivilDays();
            Check.same("the first", x.holiday(0, 12, 25, 0), 1);
            Check.same("one of another kind", x.holiday(1, 1, 0, 0), 2);
            Check.same("the same one again", x.holiday(1, 1, 0, 0), 3);
            Check.same("one goes", x.noHoliday(1), 2);
            Check.same("the next", x.holiday(2, 5, 1, -1), 3);
            x.civil(0, 2024, 5, 27);
            Check.same("it is behind the others", x.isHoliday(0), 2);
        });
        Sentences.test(11, "(Numbers that its kind does not use are any.)", () -> {
            for (int any : new int[] {Due.LEAST, -101, -1, 0, 5, 13, 101, Due.GREATEST}) {
                needsRule(0, 12, 31, any);
                needsRule(1, 100, any, 0);
                needsRule(1, -100, 0, any);
                needsRule(3, 2, 29, any);
                needsDays(2024, 0, 12, 25, any, "2024-12-25 ");
                needsDays(2024, 1, 1, any, any, "2024-04-01 ");
                needsDays(2021, 3, 7, 4, any, "2021-07-05 ");
            }
        });
        Sentences.test(11, "A RULE for HOLIDAYS, 12 of them at most, has a kind and three numbers.", () -> {
            CivilDays x = new CivilDays();
            for (int many = 1; many <= 12; many++) {
                Check.same("rule " + many, x.holiday(many % 4, 1, 1, 1), many);
            }
            Check.refused("a thirteenth", Check.NO_ROOM, () -> x.holiday(0, 1, 1, 1));
            Check.same("one goes", x.noHoliday(11), 11);
            Check.same("a twelfth again", x.holiday(3, 1, 1, 1), 12);
            Check.refused("a thirteenth again", Check.NO_ROOM, () -> x.holiday(0, 1, 1, 1));
        });
    }

    private static void holidayRefused() {
        Sentences.test(11, "IllegalArgument; UnsupportedOperation.", () -> {
            for (int kind : new int[] {-1, 4, 5, Due.LEAST, Due.GREATEST}) {
                noRule(kind, 1, 1, 1);
            }
            noRule(0, 2, 30, 0);
            for (int kind = 0; kind <= 3; kind++) {
                int k = kind;
                Laden.refuses("a thirteenth, " + text(k, 1, 1, 1), Check.NO_ROOM,
                        x -> x.holiday(k, 1, 1, 1));
            }
        });
        Sentences.test(11, "UnsupportedOperation: there would be more than there may be", () -> {
            Check.same("the twelfth", Laden.object(11, "").holiday(0, 1, 1, 0), 12);
            Laden.refuses("the thirteenth", Check.NO_ROOM, x -> x.holiday(0, 6, 6, 0));
        });
    }

    private static void holidayNumbers() {
        Sentences.test(11, "0: month a, day b of each year (February 29 only in leap ones).", () -> {
            monthsAndDays(0);
        });
        Sentences.test(11, "3: as 0", () -> {
            monthsAndDays(3);
        });
        Sentences.test(11, "(or before: -100 .. 100)", () -> {
            for (int a : new int[] {-100, -99, -1, 0, 1, 99, 100}) {
                needsRule(1, a, 0, 0);
            }
            for (int a : new int[] {-101, 101, -1000, 1000, Due.LEAST, Due.GREATEST}) {
                noRule(1, a, 0, 0);
            }
        });
        Sentences.test(11, "2: the c-th weekday b of month a (c is 1 .. 4, or -1: the last).", () -> {
            for (int c : new int[] {1, 2, 3, 4, -1}) {
                needsRule(2, 1, 1, c);
                needsRule(2, 12, 7, c);
            }
            for (int c : new int[] {0, 5, 6, -2, -5, Due.LEAST, Due.GREATEST}) {
                noRule(2, 1, 1, c);
            }
            for (int month : new int[] {0, 13, -1, Due.LEAST, Due.GREATEST}) {
                noRule(2, month, 1, 1);
            }
            for (int weekday : new int[] {0, 8, -1, Due.LEAST, Due.GREATEST}) {
                noRule(2, 1, weekday, 1);
            }
        });
    }

    private static void monthsAndDays(int kind) {
        for (int month = 1; month <= 12; month++) {
            int length = month == 2 ? 29 : YearMonth.of(2024, month).lengthOfMonth();
            needsRule(kind, month, 1, 0);
            needsRule(kind, month, length, 0);
            noRule(kind, month, 0, 0);
            noRule(kind, month, length + 1, 0);
            noRule(kind, month, 32, 0);
            noRule(kind, month, -1, 0);
            noRule(kind, month, Due.LEAST, 0);
            noRule(kind, month, Due.GREATEST, 0);
        }
        for (int month : new int[] {0, 13, -1, -12, Due.LEAST, Due.GREATEST}) {
            noRule(kind, month, 1, 0);
        }
    }

    private static void noHoliday() {
        Sentences.test(12, "Rule k goes; those behind it are one less: how many are left.", () -> {
            CivilDays x = Laden.object(4, "");
            Check.same("the middle one", x.noHoliday(1), 3);
            needsRuleOfDay(x, 1, 0);
            needsRuleOfDay(x, 2, CivilDays.NONE);
            needsRuleOfDay(x, 3, 1);
            needsRuleOfDay(x, 4, 2);
            Check.same("the last one", x.noHoliday(2), 2);
            needsRuleOfDay(x, 3, 1);
            needsRuleOfDay(x, 4, CivilDays.NONE);
            Check.same("the first one", x.noHoliday(0), 1);
            needsRuleOfDay(x, 1, CivilDays.NONE);
            needsRuleOfDay(x, 3, 0);
            Check.same("the only one", x.noHoliday(0), 0);
            needsRuleOfDay(x, 3, CivilDays.NONE);
            CivilDays y = Laden.object();
            Check.same("the last one of twelve", y.noHoliday(11), 11);
        });
        Sentences.test(12, "IndexOutOfBounds: there is no such slot, rule, character.", () -> {
            Laden.Maker three = () -> Laden.object(3, "2");
            for (int k : new int[] {-1, 3, 4, 11, 12, Due.LEAST, Due.GREATEST}) {
                Laden.refuses(three, "noHoliday(" + k + ") of 3", Check.NO_INDEX, x -> x.noHoliday(k));
            }
            for (int k : new int[] {-1, 12, 13, Due.LEAST, Due.GREATEST}) {
                Laden.refuses("noHoliday(" + k + ") of 12", Check.NO_INDEX, x -> x.noHoliday(k));
            }
            Laden.Maker without = () -> Laden.object(0, "2");
            for (int k : new int[] {-1, 0, 1, 11, Due.LEAST, Due.GREATEST}) {
                Laden.refuses(without, "noHoliday(" + k + ") of 0", Check.NO_INDEX, x -> x.noHoliday(k));
            }
        });
    }

    /** Which rule of a laden object a day of January is a holiday by. */
    private static void needsRuleOfDay(CivilDays x, int day, int want) {
        x.civil(0, 2020, 1, day);
        Check.same("isHoliday of January " + day, x.isHoliday(0), want);
    }

    private static void isHoliday() {
        Sentences.test(14, "The first rule by which a date is a holiday; NONE.", () -> {
            CivilDays x = new CivilDays();
            x.civil(0, 2024, 7, 4);
            Check.same("without a rule", x.isHoliday(0), CivilDays.NONE);
            x.holiday(0, 12, 25, 0);
            Check.same("by no rule", x.isHoliday(0), CivilDays.NONE);
            x.holiday(3, 7, 4, 0);
            Check.same("by the last rule", x.isHoliday(0), 1);
            x.holiday(0, 7, 4, 0);
            Check.same("by two rules", x.isHoliday(0), 1);
            x.noHoliday(0);
            Check.same("by the first two rules", x.isHoliday(0), 0);
            x.noHoliday(0);
            Check.same("by the other one", x.isHoliday(0), 0);
            x.noHoliday(0);
            Check.same("by none any more", x.isHoliday(0), CivilDays.NONE);
            CivilDays y = Laden.object();
            needsRuleOfDay(y, 1, 0);
            needsRuleOfDay(y, 12, 11);
            needsRuleOfDay(y, 13, CivilDays.NONE);
            CivilDays z = new CivilDays();
            z.civil(0, 2024, 6, 1);
            Check.same("a Saturday is no holiday by itself", z.isHoliday(0), CivilDays.NONE);
        });
    }

    /** All days of a year that are holidays by one rule. */
    private static void needsDays(int year, int kind, int a, int b, int c, String want) {
        StringBuilder found = new StringBuilder();
        for (int month = 1; month <= 12; month++) {
            CivilDays x = new CivilDays();
            x.holiday(kind, a, b, c);
            for (int day = 1; day <= YearMonth.of(year, month).lengthOfMonth(); day++) {
                x.civil(0, year, month, day);
                if (x.isHoliday(0) != CivilDays.NONE) {
                    found.append(LocalDate.of(year, month, day)).append(' ');
                }
            }
        }
        Check.tell("holidays of " + year + " by " + text(kind, a, b, c), found.toString(), want);
    }

    private static void fixedDays() {
        Sentences.test(14, "0: month a, day b of each year (February 29 only in leap ones).", () -> {
            needsDays(1, 0, 1, 1, 0, "0001-01-01 ");
            needsDays(1, 0, 12, 31, 0, "0001-12-31 ");
            needsDays(2024, 0, 7, 4, 0, "2024-07-04 ");
            needsDays(9999, 0, 1, 1, 0, "9999-01-01 ");
            needsDays(9999, 0, 12, 31, 0, "9999-12-31 ");
            needsDays(4, 0, 2, 29, 0, "0004-02-29 ");
            needsDays(2000, 0, 2, 29, 0, "2000-02-29 ");
            needsDays(2024, 0, 2, 29, 0, "2024-02-29 ");
            needsDays(2024, 0, 2, 28, 0, "2024-02-28 ");
            for (int year : new int[] {1, 1900, 2023, 2025, 2100, 9999}) {
                needsDays(year, 0, 2, 29, 0, "");
            }
        });
    }

    private static void daysByEaster() {
        Sentences.test(14, "1: a days behind Easter (or before: -100 .. 100), "
                + "of years from 1583 on (also if that is of the year before).", () -> {
            needsDays(2024, 1, 0, 0, 0, "2024-03-31 ");
            needsDays(2024, 1, 1, 0, 0, "2024-04-01 ");
            needsDays(2024, 1, -2, 0, 0, "2024-03-29 ");
            needsDays(1886, 1, 100, 0, 0, "1886-08-03 ");
            needsDays(1583, 1, 0, 0, 0, "1583-04-10 ");
            needsDays(1582, 1, 0, 0, 0, "");
            needsDays(1582, 1, 100, 0, 0, "");
            needsDays(1, 1, 0, 0, 0, "");
            needsDays(9999, 1, 0, 0, 0, "9999-03-28 ");
            needsDays(9999, 1, 100, 0, 0, "9999-07-06 ");
            needsDays(9999, 1, -100, 0, 0, "");
            needsDays(9998, 1, -100, 0, 0, "9998-12-18 ");
            // Easter of 1583 is 100 days behind the last day of 1582; that of 1582 does not count.
            needsDays(1582, 1, -100, 0, 0, "1582-12-31 ");
            needsDays(1582, 1, -99, 0, 0, "");
            needsDays(1583, 1, -99, 0, 0, "1583-01-01 1583-12-24 ");
            // Two of one year, none of the next.
            needsDays(1817, 1, -100, 0, 0, "1817-12-12 ");
            needsDays(1817, 1, -81, 0, 0, "1817-01-15 1817-12-31 ");
            needsDays(1818, 1, -81, 0, 0, "");
            needsDays(2022, 1, -100, 0, 0, "2022-01-07 2022-12-30 ");
            needsDays(2023, 1, -100, 0, 0, "2023-12-22 ");
            needsDays(2024, 1, -100, 0, 0, "");
        });
    }

    private static void nthWeekdays() {
        Sentences.test(14, "2: the c-th weekday b of month a (c is 1 .. 4, or -1: the last).", () -> {
            needsDays(2024, 2, 11, 4, 1, "2024-11-07 ");
            needsDays(2024, 2, 11, 4, 2, "2024-11-14 ");
            needsDays(2024, 2, 11, 4, 3, "2024-11-21 ");
            needsDays(2024, 2, 11, 4, 4, "2024-11-28 ");
            needsDays(2024, 2, 11, 4, -1, "2024-11-28 ");
            needsDays(2024, 2, 7, 1, 1, "2024-07-01 ");
            needsDays(2024, 2, 7, 7, 1, "2024-07-07 ");
            needsDays(2024, 2, 7, 7, 4, "2024-07-28 ");
            // The last of five, and of four.
            needsDays(2021, 2, 5, 1, -1, "2021-05-31 ");
            needsDays(2024, 2, 5, 1, -1, "2024-05-27 ");
            needsDays(2024, 2, 2, 4, 4, "2024-02-22 ");
            needsDays(2024, 2, 2, 4, -1, "2024-02-29 ");
            needsDays(2023, 2, 2, 2, -1, "2023-02-28 ");
            needsDays(1, 2, 1, 1, 1, "0001-01-01 ");
            needsDays(9999, 2, 12, 5, -1, "9999-12-31 ");
        });
    }

    private static void observedDays() {
        Sentences.test(14, "3: as 0, but the Friday before, if it is a Saturday, "
                + "the Monday behind, if it is a Sunday", () -> {
            needsDays(2020, 3, 7, 4, 0, "2020-07-03 ");
            needsDays(2021, 3, 7, 4, 0, "2021-07-05 ");
            needsDays(2022, 3, 7, 4, 0, "2022-07-04 ");
            needsDays(2023, 3, 7, 4, 0, "2023-07-04 ");
            needsDays(2024, 3, 7, 4, 0, "2024-07-04 ");
            needsDays(2025, 3, 7, 4, 0, "2025-07-04 ");
            needsDays(2020, 3, 8, 1, 0, "2020-07-31 ");
            needsDays(2020, 3, 5, 31, 0, "2020-06-01 ");
            // February 29 as a Thursday, a Saturday, a Sunday; and of no leap year.
            needsDays(2024, 3, 2, 29, 0, "2024-02-29 ");
            needsDays(2020, 3, 2, 29, 0, "2020-02-28 ");
            needsDays(2032, 3, 2, 29, 0, "2032-03-01 ");
            needsDays(2023, 3, 2, 29, 0, "");
            needsDays(1900, 3, 2, 29, 0, "");
            // The weekend may be another one: Saturday stays Saturday.
            CivilDays x = new CivilDays();
            x.holiday(3, 7, 4, 0);
            x.weekend(1 << 4);
            x.civil(0, 2020, 7, 3);
            Check.same("the Friday before", x.isHoliday(0), 0);
            x.civil(0, 2020, 7, 4);
            Check.same("the Saturday itself", x.isHoliday(0), CivilDays.NONE);
        });
    }

    private static void observedAtTheYearsEnds() {
        Sentences.test(14, "(also if that is of another year; there is no year 10000).", () -> {
            needsDays(2021, 3, 1, 1, 0, "2021-01-01 2021-12-31 ");
            needsDays(2022, 3, 1, 1, 0, "");
            needsDays(2023, 3, 1, 1, 0, "2023-01-02 ");
            needsDays(2017, 3, 12, 31, 0, "");
            needsDays(2018, 3, 12, 31, 0, "2018-01-01 2018-12-31 ");
            needsDays(2022, 3, 12, 31, 0, "2022-12-30 ");
            // January 1 of a year 10000 would be a Saturday.
            needsDays(9999, 3, 1, 1, 0, "9999-01-01 ");
            needsDays(9999, 3, 12, 31, 0, "9999-12-31 ");
        });
        Sentences.test(14, "YEARS are 1 .. 9999", () -> {
            // December 31 of a year 0 would be a Sunday.
            needsDays(1, 3, 12, 31, 0, "0001-12-31 ");
            needsDays(1, 3, 1, 1, 0, "0001-01-01 ");
        });
    }
}
