/** Promises 7 to 10: a date is moved, told, compared with another one, copied. */
final class MoveSentences {
    private static final int[] NO_UNITS = {-1, 3, 4, 12, Due.LEAST, Due.GREATEST};

    private MoveSentences() {
    }

    static void run() {
        move();
        moveByMonths();
        moveBeyondTheYears();
        toldByMonths();
        toldByWeeks();
        toldByYears();
        toldRefused();
        between();
        betweenBack();
        copy();
    }

    private static CivilDays with(int year, int month, int day) {
        CivilDays x = new CivilDays();
        x.civil(0, year, month, day);
        return x;
    }

    private static void move() {
        Sentences.test(7, "Moved by days (unit = 0), months (1), years, twelve months each (2): "
                + "its number.", () -> {
            CivilDays x = with(2024, 2, 29);
            Check.same("a day on", x.move(0, 1, 0), Due.number(2024, 3, 1));
            Check.same("the slot has it", x.told(0, 0), Due.number(2024, 3, 1));
            Check.same("two days back", x.move(0, -2, 0), Due.number(2024, 2, 28));
            Check.same("a month on", x.move(0, 1, 1), Due.number(2024, 3, 28));
            Check.same("two months back", x.move(0, -2, 1), Due.number(2024, 1, 28));
            Check.same("a year on", x.move(0, 1, 2), Due.number(2025, 1, 28));
            Check.same("two years back", x.move(0, -2, 2), Due.number(2023, 1, 28));
            Check.same("thirteen months on", x.move(0, 13, 1), Due.number(2024, 2, 28));
            Check.same("over a leap day", x.move(0, 366, 0), Due.number(2025, 2, 28));
            Check.same("the slot has the last of them", x.told(0, 0), Due.number(2025, 2, 28));
            for (int unit = 0; unit <= 2; unit++) {
                Check.same("by nothing, unit " + unit, x.move(0, 0, unit), Due.number(2025, 2, 28));
            }
        });
        Sentences.test(7, "IllegalArgument: the unit.", () -> {
            for (int unit : NO_UNITS) {
                for (int many : new int[] {0, 1, -1}) {
                    Laden.refuses("move(0, " + many + ", " + unit + ")", Check.NO_ARGUMENT,
                            x -> x.move(0, many, unit));
                }
            }
        });
    }

    private static void moveByMonths() {
        Sentences.test(7, "MOVING by months: the same day of the month so many months on "
                + "(or back); if that has not so many days, its last.", () -> {
            needsMonth(2024, 1, 15, 1, 2024, 2, 15);
            needsMonth(2024, 1, 15, -1, 2023, 12, 15);
            needsMonth(2024, 12, 15, 1, 2025, 1, 15);
            needsMonth(2024, 12, 31, -12, 2023, 12, 31);
            needsMonth(2024, 1, 29, 1, 2024, 2, 29);
            needsMonth(2024, 1, 30, 1, 2024, 2, 29);
            needsMonth(2024, 1, 31, 1, 2024, 2, 29);
            needsMonth(2023, 1, 28, 1, 2023, 2, 28);
            needsMonth(2023, 1, 29, 1, 2023, 2, 28);
            needsMonth(2023, 1, 31, 1, 2023, 2, 28);
            needsMonth(1900, 1, 31, 1, 1900, 2, 28);
            needsMonth(2000, 1, 31, 1, 2000, 2, 29);
            needsMonth(2024, 3, 31, -1, 2024, 2, 29);
            needsMonth(2023, 3, 31, -1, 2023, 2, 28);
            needsMonth(2024, 3, 31, 1, 2024, 4, 30);
            needsMonth(2024, 5, 31, 1, 2024, 6, 30);
            needsMonth(2024, 8, 31, 1, 2024, 9, 30);
            needsMonth(2024, 10, 31, 1, 2024, 11, 30);
            needsMonth(2024, 7, 31, 1, 2024, 8, 31);
            needsMonth(2024, 4, 30, 1, 2024, 5, 30);
            needsMonth(2023, 12, 31, 14, 2025, 2, 28);
            needsMonth(2024, 2, 29, 12, 2025, 2, 28);
            needsMonth(2024, 2, 29, 48, 2028, 2, 29);
            needsMonth(1896, 2, 29, 48, 1900, 2, 28);
            needsMonth(1, 1, 31, 119987, 9999, 12, 31);
            needsMonth(9999, 12, 31, -119987, 1, 1, 31);
            CivilDays x = with(2024, 1, 31);
            x.move(0, 1, 1);
            Check.same("the day that is lost stays so", x.move(0, 1, 1), Due.number(2024, 3, 29));
            CivilDays y = with(2024, 2, 29);
            Check.same("a year from a leap day", y.move(0, 1, 2), Due.number(2025, 2, 28));
            Check.same("and back", y.move(0, -1, 2), Due.number(2024, 2, 28));
        });
    }

    private static void needsMonth(int year, int month, int day, int many,
            int toYear, int toMonth, int toDay) {
        Check.same(year + "-" + month + "-" + day + " by " + many + " months",
                with(year, month, day).move(0, many, 1), Due.number(toYear, toMonth, toDay));
    }

    private static void moveBeyondTheYears() {
        Sentences.test(7, "or a date beyond the years.", () -> {
            CivilDays x = new CivilDays();
            x.days(0, 0);
            Check.same("from the first to the last day", x.move(0, Due.LAST, 0), Due.LAST);
            Check.same("and back", x.move(0, -Due.LAST, 0), 0);
            Check.same("to the last year", x.move(0, 9998, 2), Due.number(9999, 1, 1));
            Check.same("and back", x.move(0, -9998, 2), 0);
            Check.same("to the last month", x.move(0, 119987, 1), Due.number(9999, 12, 1));
            Check.same("and back", x.move(0, -119987, 1), 0);
            beyond(Laden.FIRST_DATE, -1, 0);
            beyond(Laden.FIRST_DATE, -1, 1);
            beyond(Laden.FIRST_DATE, -1, 2);
            beyond(Laden.FIRST_DATE, Due.LAST + 1, 0);
            beyond(Laden.FIRST_DATE, 119988, 1);
            beyond(Laden.FIRST_DATE, 9999, 2);
            beyond(Laden.LAST_DATE, 1, 0);
            beyond(Laden.LAST_DATE, 1, 1);
            beyond(Laden.LAST_DATE, 1, 2);
            beyond(Laden.LAST_DATE, -Due.LAST - 1, 0);
            beyond(Laden.LAST_DATE, -119988, 1);
            beyond(Laden.LAST_DATE, -9999, 2);
            for (int unit = 0; unit <= 2; unit++) {
                for (int many : new int[] {Due.LEAST, Due.LEAST + 1, Due.GREATEST - 1, Due.GREATEST}) {
                    beyond(Laden.SOME_DATE, many, unit);
                    beyond(Laden.FIRST_DATE, many, unit);
                    beyond(Laden.LAST_DATE, many, unit);
                }
            }
            // 12 times these wraps around to a small number in 32 bits.
            for (int many : new int[] {357913941, 357913942, 715827883, 1073741824}) {
                beyond(Laden.SOME_DATE, many, 2);
                beyond(Laden.SOME_DATE, -many, 2);
            }
        });
    }

    private static void beyond(int slot, int many, int unit) {
        Laden.refuses("move(" + slot + ", " + many + ", " + unit + ")", Check.NO_ROOM,
                x -> x.move(slot, many, unit));
    }

    private static void needsTold(int what, int year, int month, int day, int want) {
        Check.same("told(0, " + what + ") of " + year + "-" + month + "-" + day,
                with(year, month, day).told(0, what), want);
    }

    private static void toldByMonths() {
        Sentences.test(8, "Of a date: its number (what = 0)", () -> {
            needsTold(0, 1, 1, 1, 0);
            needsTold(0, 2024, 2, 29, 738944);
            needsTold(0, 9999, 12, 31, Due.LAST);
        });
        Sentences.test(8, "year (1)", () -> {
            int[] years = {1, 2, 4, 5, 100, 101, 400, 401, 1900, 2000, 2001, 2023, 2024, 9996, 9999};
            for (int year : years) {
                needsTold(1, year, 1, 1, year);
                needsTold(1, year, 12, 31, year);
            }
        });
        Sentences.test(8, "month (2), day (3)", () -> {
            for (int year : new int[] {1, 1900, 2000, 2023, 2024, 9999}) {
                for (int month = 1; month <= 12; month++) {
                    int last = with(year, month, 1).told(0, 9);
                    needsTold(2, year, month, 1, month);
                    needsTold(3, year, month, 1, 1);
                    needsTold(2, year, month, last, month);
                    needsTold(3, year, month, last, last);
                }
            }
        });
        Sentences.test(8, "days of its month (9)", () -> {
            int[] lengths = {31, 28, 31, 30, 31, 30, 31, 31, 30, 31, 30, 31};
            for (int month = 1; month <= 12; month++) {
                needsTold(9, 2023, month, 1, lengths[month - 1]);
                needsTold(9, 2023, month, 28, lengths[month - 1]);
            }
            needsTold(9, 2024, 2, 1, 29);
            needsTold(9, 2024, 2, 29, 29);
            needsTold(9, 2000, 2, 1, 29);
            needsTold(9, 1900, 2, 1, 28);
            needsTold(9, 9999, 12, 31, 31);
        });
    }

    private static void toldByWeeks() {
        Sentences.test(8, "weekday (4)", () -> {
            needsTold(4, 1, 1, 1, 1);
            needsTold(4, 1, 1, 7, 7);
            needsTold(4, 1, 1, 8, 1);
            needsTold(4, 2024, 2, 29, 4);
            needsTold(4, 9999, 12, 31, 5);
        });
        Sentences.test(8, "year of its week (5), number of its week (6)", () -> {
            needsWeek(1, 1, 1, 1, 1);
            needsWeek(1, 1, 7, 1, 1);
            needsWeek(1, 1, 8, 1, 2);
            needsWeek(2021, 1, 3, 2020, 53);
            needsWeek(2021, 1, 4, 2021, 1);
            needsWeek(2020, 12, 31, 2020, 53);
            needsWeek(2018, 12, 30, 2018, 52);
            needsWeek(2018, 12, 31, 2019, 1);
            needsWeek(2023, 1, 1, 2022, 52);
            needsWeek(2024, 1, 1, 2024, 1);
            needsWeek(2024, 12, 29, 2024, 52);
            needsWeek(2024, 12, 30, 2025, 1);
            needsWeek(9999, 12, 26, 9999, 51);
            needsWeek(9999, 12, 27, 9999, 52);
            needsWeek(9999, 12, 31, 9999, 52);
        });
        Sentences.test(8, "weeks of the year of its week (10).", () -> {
            needsTold(10, 1, 1, 1, 52);
            needsTold(10, 2020, 6, 1, 53);
            needsTold(10, 2021, 6, 1, 52);
            needsTold(10, 2021, 1, 3, 53);
            needsTold(10, 2021, 1, 4, 52);
            needsTold(10, 2014, 12, 28, 52);
            needsTold(10, 2014, 12, 29, 53);
            needsTold(10, 2015, 12, 31, 53);
            needsTold(10, 2016, 1, 3, 53);
            needsTold(10, 2016, 1, 4, 52);
            needsTold(10, 9999, 12, 31, 52);
        });
    }

    private static void needsWeek(int year, int month, int day, int weekYear, int week) {
        needsTold(5, year, month, day, weekYear);
        needsTold(6, year, month, day, week);
    }

    private static void toldByYears() {
        Sentences.test(8, "day of the year (7)", () -> {
            needsTold(7, 1, 1, 1, 1);
            needsTold(7, 2023, 2, 28, 59);
            needsTold(7, 2023, 3, 1, 60);
            needsTold(7, 2024, 2, 29, 60);
            needsTold(7, 2024, 3, 1, 61);
            needsTold(7, 2023, 12, 31, 365);
            needsTold(7, 2024, 12, 31, 366);
            needsTold(7, 1900, 12, 31, 365);
            needsTold(7, 2000, 12, 31, 366);
            needsTold(7, 9999, 12, 31, 365);
        });
        Sentences.test(8, "whether the year is leap, 1 or 0 (8)", () -> {
            for (int year : new int[] {4, 400, 1600, 2000, 2024, 9996}) {
                needsTold(8, year, 1, 1, 1);
                needsTold(8, year, 12, 31, 1);
            }
            for (int year : new int[] {1, 2, 3, 100, 200, 300, 1900, 2023, 2100, 9900, 9999}) {
                needsTold(8, year, 1, 1, 0);
                needsTold(8, year, 12, 31, 0);
            }
            // Its week is of a year that is leap, but the year itself is not, and the other way.
            needsTold(8, 2021, 1, 3, 0);
            needsTold(8, 2020, 12, 31, 1);
        });
    }

    private static void toldRefused() {
        Sentences.test(8, "or another number is none that is told.", () -> {
            for (int what : new int[] {-1, -2, 11, 12, 100, Due.LEAST, Due.GREATEST}) {
                Laden.refuses("told(0, " + what + ")", Check.NO_ARGUMENT, x -> x.told(0, what));
            }
        });
    }

    private static void between() {
        Sentences.test(9, "From one date to another one, days (unit = 0)", () -> {
            needsBetween(0, 2024, 2, 28, 2024, 3, 1, 2);
            needsBetween(0, 2023, 2, 28, 2023, 3, 1, 1);
            needsBetween(0, 2024, 5, 5, 2024, 5, 5, 0);
            needsBetween(0, 1, 1, 1, 9999, 12, 31, Due.LAST);
        });
        Sentences.test(9, "whole months (1), whole years (2): the greatest number so that "
                + "the first one moved by it is not beyond the other one", () -> {
            needsBetween(1, 2024, 5, 15, 2024, 5, 15, 0);
            needsBetween(1, 2024, 5, 15, 2024, 6, 14, 0);
            needsBetween(1, 2024, 5, 15, 2024, 6, 15, 1);
            needsBetween(1, 2024, 5, 15, 2024, 7, 14, 1);
            needsBetween(1, 2024, 1, 31, 2024, 2, 28, 0);
            needsBetween(1, 2024, 1, 31, 2024, 2, 29, 1);
            needsBetween(1, 2024, 1, 31, 2024, 3, 30, 1);
            needsBetween(1, 2024, 1, 31, 2024, 3, 31, 2);
            needsBetween(1, 2023, 1, 29, 2023, 2, 28, 1);
            needsBetween(1, 2023, 12, 31, 2024, 1, 30, 0);
            needsBetween(1, 1, 1, 1, 9999, 12, 31, 119987);
            needsBetween(1, 1, 1, 31, 9999, 12, 30, 119986);
            needsBetween(2, 2024, 5, 15, 2024, 5, 15, 0);
            needsBetween(2, 2023, 5, 15, 2024, 5, 14, 0);
            needsBetween(2, 2023, 5, 15, 2024, 5, 15, 1);
            needsBetween(2, 2000, 2, 29, 2001, 2, 27, 0);
            needsBetween(2, 2000, 2, 29, 2001, 2, 28, 1);
            needsBetween(2, 2000, 2, 29, 2004, 2, 28, 3);
            needsBetween(2, 2000, 2, 29, 2004, 2, 29, 4);
            needsBetween(2, 1, 1, 1, 9999, 12, 31, 9998);
            needsBetween(2, 1, 12, 31, 9999, 12, 30, 9997);
        });
        Sentences.test(9, "or another number is none that is told.", () -> {
            for (int unit : NO_UNITS) {
                Laden.refuses("between(0, 3, " + unit + ")", Check.NO_ARGUMENT,
                        x -> x.between(0, 3, unit));
                Laden.refuses("between(3, 0, " + unit + ")", Check.NO_ARGUMENT,
                        x -> x.between(3, 0, unit));
                Laden.refuses("between(0, 0, " + unit + ")", Check.NO_ARGUMENT,
                        x -> x.between(0, 0, unit));
            }
        });
    }

    private static void needsBetween(int unit, int year, int month, int day,
            int toYear, int toMonth, int toDay, int want) {
        CivilDays x = with(year, month, day);
        x.civil(1, toYear, toMonth, toDay);
        Check.same("unit " + unit + " from " + year + "-" + month + "-" + day
                + " to " + toYear + "-" + toMonth + "-" + toDay, x.between(0, 1, unit), want);
    }

    private static void betweenBack() {
        Sentences.test(9, "if the other one is before, that from it to the first one, below 0.", () -> {
            needsBetween(0, 2024, 3, 1, 2024, 2, 28, -2);
            needsBetween(0, 9999, 12, 31, 1, 1, 1, -Due.LAST);
            needsBetween(1, 2024, 6, 15, 2024, 5, 15, -1);
            needsBetween(1, 2024, 6, 14, 2024, 5, 15, 0);
            // A month back from the first one would come to the other one, or before it.
            needsBetween(1, 2024, 3, 28, 2024, 2, 29, 0);
            needsBetween(1, 2024, 3, 31, 2024, 2, 29, -1);
            needsBetween(1, 2023, 2, 28, 2023, 1, 31, -1);
            needsBetween(1, 2023, 2, 27, 2023, 1, 31, 0);
            needsBetween(1, 9999, 12, 31, 1, 1, 1, -119987);
            needsBetween(2, 2001, 2, 28, 2000, 2, 29, -1);
            needsBetween(2, 2001, 2, 27, 2000, 2, 29, 0);
            needsBetween(2, 2004, 2, 28, 2000, 2, 29, -3);
            needsBetween(2, 9999, 12, 31, 1, 1, 1, -9998);
            CivilDays x = with(2024, 5, 5);
            for (int unit = 0; unit <= 2; unit++) {
                Check.same("to itself, unit " + unit, x.between(0, 0, unit), 0);
            }
        });
    }

    private static void copy() {
        Sentences.test(10, "The date of a slot comes into another one, too: its number.", () -> {
            CivilDays x = new CivilDays();
            x.days(0, 77);
            Check.same("into one without a date", x.copy(0, 9), 77);
            Check.same("it came", x.told(9, 0), 77);
            Check.same("it stayed, too", x.told(0, 0), 77);
            x.move(0, 1, 0);
            Check.same("they are two", x.told(9, 0), 77);
            Check.same("into one with a date", x.copy(9, 0), 77);
            Check.same("the date before went", x.told(0, 0), 77);
            Check.same("into itself", x.copy(0, 0), 77);
            Check.same("it is still there", x.told(0, 0), 77);
            x.days(3, 0);
            Check.same("the first date", x.copy(3, 4), 0);
            x.days(3, Due.LAST);
            Check.same("the last date", x.copy(3, 4), Due.LAST);
            Check.refused("no other slot has one", Check.NO_STATE, () -> x.told(5, 0));
        });
    }
}
