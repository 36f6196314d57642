/** Promises 2 to 6: a date comes into a slot by months, number, week, Easter, n-th weekday. */
final class DateSentences {
    private static final int[] NO_YEARS = {
        0, -1, -2020, 10000, 12020, Due.LEAST, Due.LEAST + 2020, Due.GREATEST, Due.GREATEST - 1,
    };
    private static final int[] NO_MONTHS = {0, 13, -1, -12, 24, Due.LEAST, Due.GREATEST};
    private static final int[] NO_WEEKDAYS = {0, 8, -1, -7, 14, Due.LEAST, Due.GREATEST};

    private DateSentences() {
    }

    static void run() {
        civil();
        civilYears();
        civilNoSuchDate();
        days();
        week();
        weekNumbers();
        weekNoSuchDate();
        easter();
        easterByTheRule();
        nth();
        nthRefused();
    }

    private static void civil() {
        Sentences.test(2, "A date by year, month, day: its number.", () -> {
            CivilDays x = new CivilDays();
            Check.same("civil(3, 1970, 1, 1)", x.civil(3, 1970, 1, 1), 719162);
            Check.same("civil(3, 2000, 2, 29)", x.civil(3, 2000, 2, 29), 730178);
            Check.same("civil(3, 2000, 3, 1)", x.civil(3, 2000, 3, 1), 730179);
            Check.same("civil(3, 2026, 11, 16)", x.civil(3, 2026, 11, 16), Due.number(2026, 11, 16));
            Check.same("the slot has it", x.told(3, 0), Due.number(2026, 11, 16));
            Check.refused("the slot before has none", Check.NO_STATE, () -> x.told(2, 0));
            Check.refused("the slot behind has none", Check.NO_STATE, () -> x.told(4, 0));
        });
        Sentences.test(2, "A date has a NUMBER: 0 for January 1 of year 1, a Monday, "
                + "and one more for each day behind it.", () -> {
            CivilDays x = new CivilDays();
            Check.same("the first", x.civil(0, 1, 1, 1), 0);
            Check.same("its weekday", x.told(0, 4), 1);
            Check.same("the second", x.civil(0, 1, 1, 2), 1);
            Check.same("January's last", x.civil(0, 1, 1, 31), 30);
            Check.same("February's first", x.civil(0, 1, 2, 1), 31);
            Check.same("year 1's last", x.civil(0, 1, 12, 31), 364);
            Check.same("year 2's first", x.civil(0, 2, 1, 1), 365);
            Check.same("the last", x.civil(0, 9999, 12, 31), Due.LAST);
            for (int year : new int[] {1, 4, 100, 400, 1582, 1900, 2000, 2023, 2024, 9998}) {
                oneMoreAtEachMonthsEnd(year);
            }
        });
    }

    private static void oneMoreAtEachMonthsEnd(int year) {
        CivilDays x = new CivilDays();
        for (int month = 1; month <= 12; month++) {
            int first = x.civil(0, year, month, 1);
            Check.same("first of " + year + "-" + month, first, Due.number(year, month, 1));
            int last = x.civil(1, year, month, x.told(0, 9));
            int next = month == 12 ? x.civil(2, year + 1, 1, 1) : x.civil(2, year, month + 1, 1);
            Check.same("behind the last of " + year + "-" + month, next, last + 1);
        }
    }

    private static void civilYears() {
        Sentences.test(2, "YEARS are 1 .. 9999", () -> {
            CivilDays x = new CivilDays();
            Check.same("first day of year 1", x.civil(0, 1, 1, 1), 0);
            Check.same("last day of year 1", x.civil(0, 1, 12, 31), 364);
            Check.same("first day of 9999", x.civil(0, 9999, 1, 1), Due.number(9999, 1, 1));
            Check.same("last day of 9999", x.civil(0, 9999, 12, 31), Due.LAST);
            for (int year : NO_YEARS) {
                noCivil(year, 1, 1);
                noCivil(year, 12, 31);
            }
        });
        Sentences.test(2, "years that 4 divides are LEAP, but of those that 100 divides "
                + "only those that 400 does.", () -> {
            for (int year : new int[] {4, 8, 96, 104, 400, 1600, 2000, 2024, 2400, 9600, 9996}) {
                CivilDays x = new CivilDays();
                Check.same("February 29 of " + year, x.civil(0, year, 2, 29), Due.number(year, 2, 29));
                Check.same("March 1 of " + year, x.civil(0, year, 3, 1), Due.number(year, 2, 29) + 1);
            }
            for (int year : new int[] {1, 2, 3, 5, 100, 200, 300, 1700, 1900, 2023, 2100, 9900, 9999}) {
                noCivil(year, 2, 29);
                CivilDays x = new CivilDays();
                Check.same("March 1 of " + year, x.civil(0, year, 3, 1), x.civil(1, year, 2, 28) + 1);
            }
        });
    }

    private static void civilNoSuchDate() {
        Sentences.test(2, "IllegalArgument: there is no such date", () -> {
            int[] lengths = {31, 28, 31, 30, 31, 30, 31, 31, 30, 31, 30, 31};
            for (int month = 1; month <= 12; month++) {
                int length = lengths[month - 1];
                Check.same("last of month " + month,
                        new CivilDays().civil(0, 2023, month, length), Due.number(2023, month, length));
                noCivil(2023, month, length + 1);
                noCivil(2023, month, 0);
                noCivil(2023, month, 32);
            }
            noCivil(2024, 2, 30);
            noCivil(2000, 2, 30);
            for (int month : NO_MONTHS) {
                noCivil(2024, month, 1);
            }
            for (int day : new int[] {-1, -31, 33, 366, Due.LEAST, Due.LEAST + 1, Due.GREATEST}) {
                noCivil(2024, 1, day);
                noCivil(2024, 12, day);
            }
        });
    }

    private static void noCivil(int year, int month, int day) {
        Laden.refuses("civil(0, " + year + ", " + month + ", " + day + ")", Check.NO_ARGUMENT,
                x -> x.civil(0, year, month, day));
    }

    private static void days() {
        Sentences.test(3, "By its number: the weekday.", () -> {
            CivilDays x = new CivilDays();
            Check.same("days(5, 730178)", x.days(5, 730178), 2);
            Check.same("the slot has it", x.told(5, 0), 730178);
            Check.same("its year", x.told(5, 1), 2000);
            Check.same("its month", x.told(5, 2), 2);
            Check.same("its day", x.told(5, 3), 29);
            Check.same("one behind it", x.days(5, 730179), 3);
            Check.refused("the slot behind has none", Check.NO_STATE, () -> x.told(6, 0));
        });
        Sentences.test(3, "WEEKDAYS are 1 (Monday) .. 7.", () -> {
            CivilDays x = new CivilDays();
            for (int number = 0; number < 28; number++) {
                Check.same("days(0, " + number + ")", x.days(0, number), number % 7 + 1);
            }
            Check.same("the last Sunday", x.days(0, Due.LAST - 5), 7);
            Check.same("the last Monday", x.days(0, Due.LAST - 4), 1);
            Check.same("the last day", x.days(0, Due.LAST), 5);
        });
        Sentences.test(3, "IllegalArgument: there is no such date", () -> {
            CivilDays x = new CivilDays();
            Check.same("the least number", x.days(0, 0), 1);
            Check.same("the greatest number", x.days(0, Due.LAST), 5);
            int[] none = {-1, -2, Due.LAST + 1, Due.LAST + 2, 3652425, Due.LEAST, Due.GREATEST};
            for (int number : none) {
                Laden.refuses("days(0, " + number + ")", Check.NO_ARGUMENT, o -> o.days(0, number));
            }
        });
    }

    private static void week() {
        Sentences.test(4, "By a week's year and number, and the weekday: its number.", () -> {
            CivilDays x = new CivilDays();
            Check.same("2024-W09-4", x.week(6, 2024, 9, 4), Due.number(2024, 2, 29));
            Check.same("the slot has it", x.told(6, 0), Due.number(2024, 2, 29));
            Check.same("2026-W47-1", x.week(6, 2026, 47, 1), Due.number(2026, 11, 16));
            Check.same("the first of all", x.week(6, 1, 1, 1), 0);
            Check.refused("the slot before has none", Check.NO_STATE, () -> x.told(5, 0));
        });
        Sentences.test(4, "IllegalArgument: also if it is beyond the years.", () -> {
            CivilDays x = new CivilDays();
            Check.same("9999-W52-4", x.week(0, 9999, 52, 4), Due.LAST - 1);
            Check.same("9999-W52-5, the last day", x.week(0, 9999, 52, 5), Due.LAST);
            noWeek(9999, 52, 6);
            noWeek(9999, 52, 7);
        });
        Sentences.test(4, "WEEKS begin with Monday", () -> {
            CivilDays x = new CivilDays();
            int monday = Due.number(2024, 1, 1);
            for (int weekday = 1; weekday <= 7; weekday++) {
                Check.same("2024-W01-" + weekday, x.week(0, 2024, 1, weekday), monday + weekday - 1);
                Check.same("2024-W02-" + weekday, x.week(0, 2024, 2, weekday), monday + weekday + 6);
            }
        });
    }

    private static void weekNumbers() {
        Sentences.test(4, "a week is of the year that has its Thursday", () -> {
            CivilDays x = new CivilDays();
            Check.same("2020-W53-7", x.week(0, 2020, 53, 7), Due.number(2021, 1, 3));
            Check.same("2020-W53-4", x.week(0, 2020, 53, 4), Due.number(2020, 12, 31));
            Check.same("2021-W01-1", x.week(0, 2021, 1, 1), Due.number(2021, 1, 4));
            Check.same("2019-W01-1", x.week(0, 2019, 1, 1), Due.number(2018, 12, 31));
            Check.same("2015-W01-4, a January 1", x.week(0, 2015, 1, 4), Due.number(2015, 1, 1));
            Check.same("2015-W01-1", x.week(0, 2015, 1, 1), Due.number(2014, 12, 29));
            Check.same("2015-W53-5, a January 1", x.week(0, 2015, 53, 5), Due.number(2016, 1, 1));
            Check.same("2016-W01-1", x.week(0, 2016, 1, 1), Due.number(2016, 1, 4));
            Check.same("2024-W01-1, a January 1", x.week(0, 2024, 1, 1), Due.number(2024, 1, 1));
            Check.same("2022-W52-7, a January 1", x.week(0, 2022, 52, 7), Due.number(2023, 1, 1));
        });
        Sentences.test(4, "and they are numbered from 1 on in each.", () -> {
            CivilDays x = new CivilDays();
            for (int year : new int[] {2004, 2009, 2015, 2020, 2026, 9992, 9998}) {
                int last = x.week(0, year, 53, 1);
                Check.same(year + " has 53 weeks", x.week(0, year + 1, 1, 1), last + 7);
                noWeek(year, 54, 1);
            }
            for (int year : new int[] {1, 2000, 2016, 2019, 2021, 2024, 9997}) {
                int last = x.week(0, year, 52, 1);
                Check.same(year + " has 52 weeks", x.week(0, year + 1, 1, 1), last + 7);
                noWeek(year, 53, 1);
            }
            noWeek(9999, 53, 1);
            for (int week : new int[] {0, -1, 54, 100, 613566758, -613566756, Due.LEAST, Due.GREATEST}) {
                noWeek(2020, week, 1);
                noWeek(1, week, 1);
            }
        });
    }

    private static void weekNoSuchDate() {
        Sentences.test(4, "IllegalArgument: there is no such date", () -> {
            for (int year : NO_YEARS) {
                noWeek(year, 1, 1);
                noWeek(year, 52, 5);
            }
            for (int weekday : NO_WEEKDAYS) {
                noWeek(2020, 1, weekday);
                noWeek(2020, 53, weekday);
            }
        });
    }

    private static void noWeek(int year, int week, int weekday) {
        Laden.refuses("week(0, " + year + ", " + week + ", " + weekday + ")", Check.NO_ARGUMENT,
                x -> x.week(0, year, week, weekday));
    }

    private static void easter() {
        Sentences.test(5, "Easter of a year: its number.", () -> {
            needsEaster(1961, 4, 2);
            needsEaster(2000, 4, 23);
            needsEaster(2019, 4, 21);
            needsEaster(2024, 3, 31);
            needsEaster(2025, 4, 20);
            CivilDays x = new CivilDays();
            Check.same("its number", x.easter(7, 2024), 738975);
            Check.same("the slot has it", x.told(7, 0), 738975);
            Check.refused("the slot before has none", Check.NO_STATE, () -> x.told(6, 0));
        });
        Sentences.test(5, "EASTER of a year from 1583 on", () -> {
            needsEaster(1583, 4, 10);
            needsEaster(1584, 4, 1);
            needsEaster(9998, 4, 5);
            needsEaster(9999, 3, 28);
            noEaster(1582);
            noEaster(1581);
            noEaster(1);
        });
        Sentences.test(5, "IllegalArgument: there is no such date", () -> {
            for (int year : NO_YEARS) {
                noEaster(year);
            }
        });
    }

    private static void easterByTheRule() {
        Sentences.test(5, "g is the rest of it by 19, c the year divided by 100, "
                + "all divided downward; h is the rest by 30 of "
                + "c - c / 4 - (8 c + 13) / 25 + 19 g + 15", () -> {
            // The turns of centuries, where c, c / 4 and (8 c + 13) / 25 change.
            needsEaster(1599, 4, 11);
            needsEaster(1600, 4, 2);
            needsEaster(1699, 4, 19);
            needsEaster(1700, 4, 11);
            needsEaster(1799, 3, 24);
            needsEaster(1800, 4, 13);
            needsEaster(1899, 4, 2);
            needsEaster(1900, 4, 15);
            needsEaster(2099, 4, 12);
            needsEaster(2100, 3, 28);
            for (int year = 1583; year <= 9999; year++) {
                Check.same("easter(0, " + year + ")", new CivilDays().easter(0, year),
                        Model.numberOf(Model.easterOf(year)));
            }
        });
        Sentences.test(5, "i is h, but 28 for 29, and 27 for 28 if g is above 10", () -> {
            // h is 29, and the day 29 days behind March 21 a Sunday.
            needsEaster(1609, 4, 19);
            needsEaster(1981, 4, 19);
            needsEaster(2076, 4, 19);
            // h is 28, and that many days behind March 21 is a Sunday; g is 16, and 11.
            needsEaster(1954, 4, 18);
            needsEaster(2049, 4, 18);
            needsEaster(3165, 4, 18);
            // The same with a g of 5, and of 10.
            needsEaster(1734, 4, 25);
            needsEaster(1886, 4, 25);
            needsEaster(7515, 4, 25);
        });
        Sentences.test(5, "it is the first Sunday behind the day that is i days behind March 21.", () -> {
            // i is 0: March 21 is a Saturday, and a Sunday.
            needsEaster(1818, 3, 22);
            needsEaster(2285, 3, 22);
            needsEaster(1875, 3, 28);
            needsEaster(2247, 3, 28);
            // The latest: a Sunday 28 days behind March 21 is not behind itself.
            needsEaster(1943, 4, 25);
            needsEaster(2038, 4, 25);
        });
    }

    private static void needsEaster(int year, int month, int day) {
        CivilDays x = new CivilDays();
        Check.same("easter(0, " + year + ")", x.easter(0, year), Due.number(year, month, day));
        Check.same("weekday of Easter " + year, x.told(0, 4), 7);
    }

    private static void noEaster(int year) {
        Laden.refuses("easter(0, " + year + ")", Check.NO_ARGUMENT, x -> x.easter(0, year));
    }

    private static void nth() {
        Sentences.test(6, "The n-th weekday of a month", () -> {
            needsNth(2024, 11, 4, 4, 28);
            needsNth(2024, 2, 4, 5, 29);
            needsNth(2024, 7, 1, 1, 1);
            needsNth(2024, 7, 7, 1, 7);
            needsNth(2024, 7, 1, 2, 8);
            needsNth(2024, 7, 3, 5, 31);
            needsNth(2023, 2, 2, 4, 28);
            needsNth(1, 1, 1, 1, 1);
            needsNth(9999, 12, 5, 5, 31);
            CivilDays x = new CivilDays();
            x.nth(8, 2024, 11, 4, 4);
            Check.same("the slot has it", x.told(8, 0), Due.number(2024, 11, 28));
            Check.refused("the slot before has none", Check.NO_STATE, () -> x.told(7, 0));
        });
        Sentences.test(6, "or, n below 0, from its end: its number.", () -> {
            needsNth(2024, 5, 1, -1, 27);
            needsNth(2024, 5, 5, -1, 31);
            needsNth(2024, 5, 6, -1, 25);
            needsNth(2024, 5, 5, -2, 24);
            needsNth(2024, 5, 3, -5, 1);
            needsNth(2024, 2, 4, -5, 1);
            needsNth(2023, 2, 3, -4, 1);
            needsNth(2023, 2, 2, -2, 21);
            needsNth(1, 1, 1, -5, 1);
            needsNth(9999, 12, 5, -1, 31);
        });
    }

    private static void needsNth(int year, int month, int weekday, int n, int day) {
        Check.same("nth(0, " + year + ", " + month + ", " + weekday + ", " + n + ")",
                new CivilDays().nth(0, year, month, weekday, n), Due.number(year, month, day));
    }

    private static void nthRefused() {
        Sentences.test(6, "IllegalArgument: there are not so many; n is 0.", () -> {
            for (int weekday = 1; weekday <= 7; weekday++) {
                noNth(2023, 2, weekday, 5);
                noNth(2023, 2, weekday, -5);
                noNth(2024, 5, weekday, 0);
                noNth(2024, 5, weekday, 6);
                noNth(2024, 5, weekday, -6);
            }
            noNth(2024, 2, 3, 5);
            noNth(2024, 2, 5, 5);
            noNth(2024, 5, 1, -5);
            noNth(2024, 5, 2, 5);
            noNth(9999, 12, 6, 5);
            // 7 times these wraps around to a few days in 32 bits.
            noNth(2024, 5, 3, 613566757);
            noNth(2024, 5, 3, 613566758);
            noNth(2024, 5, 3, -613566757);
            noNth(2024, 5, 3, -613566758);
            noNth(2024, 5, 3, Due.GREATEST);
            noNth(2024, 5, 3, Due.LEAST);
        });
        Sentences.test(6, "IllegalArgument: there is no such date, or another number is none "
                + "that is told.", () -> {
            for (int year : NO_YEARS) {
                noNth(year, 1, 1, 1);
                noNth(year, 12, 5, -1);
            }
            for (int month : NO_MONTHS) {
                noNth(2024, month, 1, 1);
                noNth(2024, month, 1, -1);
            }
            for (int weekday : NO_WEEKDAYS) {
                noNth(2024, 5, weekday, 1);
                noNth(2024, 5, weekday, -1);
            }
        });
    }

    private static void noNth(int year, int month, int weekday, int n) {
        Laden.refuses("nth(0, " + year + ", " + month + ", " + weekday + ", " + n + ")",
                Check.NO_ARGUMENT, x -> x.nth(0, year, month, weekday, n));
    }
}
