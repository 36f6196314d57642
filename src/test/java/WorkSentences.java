/** Promises 13, 15 and 16: the weekend, and working days counted and walked. */
final class WorkSentences {
    private static final int[] NO_WEEKENDS = {
        -1, -96, 127, 128, 223, 256, 256 + 96, Due.LEAST, Due.LEAST + 96, Due.GREATEST,
    };

    private WorkSentences() {
    }

    static void run() {
        weekend();
        weekendSets();
        work();
        workOfWorkingDays();
        workTooFar();
        moveWork();
        moveWorkOverHolidays();
        moveWorkTooMany();
        moveWorkBeyondTheYears();
    }

    private static void weekend() {
        Sentences.test(13, "The WEEKEND is another one: what it was.", () -> {
            CivilDays x = new CivilDays();
            Check.same("the first", x.weekend(64), 96);
            Check.same("the next", x.weekend(0), 64);
            Check.same("none", x.weekend(126), 0);
            Check.same("all but Monday", x.weekend(126), 126);
            Check.same("the same again", x.weekend(5), 126);
        });
        Sentences.test(13, "IllegalArgument: it is not 0 .. 126.", () -> {
            for (int set = 0; set <= 126; set++) {
                Check.same("weekend(" + set + ")", new CivilDays().weekend(set), 96);
            }
            for (int set : NO_WEEKENDS) {
                Laden.refuses("weekend(" + set + ")", Check.NO_ARGUMENT, x -> x.weekend(set));
            }
        });
    }

    private static void weekendSets() {
        Sentences.test(13, "The WEEKEND is a set of weekdays, 2^(d - 1) for each, "
                + "at first 96 (Saturday, Sunday), never all.", () -> {
            CivilDays y = new CivilDays();
            Check.same("at first", y.weekend(96), 96);
            Check.refused("all", Check.NO_ARGUMENT, () -> y.weekend(127));
            for (int set = 0; set <= 126; set++) {
                CivilDays x = new CivilDays();
                x.weekend(set);
                for (int d = 1; d <= 7; d++) {
                    x.days(0, 700000 / 7 * 7 + d - 1);
                    x.copy(0, 1);
                    x.move(1, 1, 0);
                    int working = (set & 1 << (d - 1)) == 0 ? 1 : 0;
                    Check.same("weekday " + d + ", weekend " + set, x.work(0, 1), working);
                }
            }
        });
    }

    private static void needsWork(CivilDays x, int from, int to, int want) {
        x.days(0, from);
        x.days(1, to);
        Check.same("work from " + from + " to " + to, x.work(0, 1), want);
    }

    private static void work() {
        Sentences.test(15, "How many working days there are from one date up to another one, "
                + "without that", () -> {
            CivilDays x = new CivilDays();
            int monday = Due.number(2024, 7, 1);
            needsWork(x, monday, monday, 0);
            needsWork(x, monday, monday + 1, 1);
            needsWork(x, monday, monday + 4, 4);
            needsWork(x, monday, monday + 5, 5);
            needsWork(x, monday, monday + 6, 5);
            needsWork(x, monday, monday + 7, 5);
            needsWork(x, monday, monday + 8, 6);
            needsWork(x, monday + 4, monday + 7, 1);
            needsWork(x, monday + 5, monday + 7, 0);
            needsWork(x, 0, 1, 1);
            needsWork(x, Due.LAST - 1, Due.LAST, 1);
            needsWork(x, Due.LAST, Due.LAST, 0);
            Check.same("a slot to itself", x.work(0, 0), 0);
            Check.same("the first stays", x.told(0, 0), Due.LAST);
            x.holiday(0, 7, 1, 0);
            x.holiday(0, 7, 3, 0);
            needsWork(x, monday, monday + 2, 1);
            needsWork(x, monday + 1, monday + 2, 1);
            needsWork(x, monday + 1, monday + 3, 1);
        });
        Sentences.test(15, "if that is before, as many as from it to the first one, below 0.", () -> {
            CivilDays x = new CivilDays();
            int monday = Due.number(2024, 7, 1);
            needsWork(x, monday + 1, monday, -1);
            needsWork(x, monday + 5, monday, -5);
            needsWork(x, monday + 7, monday + 5, 0);
            needsWork(x, monday + 7, monday + 4, -1);
            needsWork(x, 1, 0, -1);
            needsWork(x, Due.LAST, Due.LAST - 1, -1);
            x.holiday(0, 7, 1, 0);
            needsWork(x, monday + 1, monday, 0);
            needsWork(x, monday, monday - 3, -1);
        });
    }

    private static void workOfWorkingDays() {
        Sentences.test(15, "A WORKING day is one that is not in it, and no holiday by any rule.", () -> {
            CivilDays x = new CivilDays();
            int monday = Due.number(2024, 7, 1);
            x.holiday(0, 7, 4, 0);
            needsWork(x, monday, monday + 7, 4);
            x.holiday(3, 7, 4, 0);
            needsWork(x, monday, monday + 7, 4);
            x.holiday(0, 7, 6, 0);
            needsWork(x, monday, monday + 7, 4);
            x.holiday(0, 7, 2, 0);
            needsWork(x, monday, monday + 7, 3);
            x.weekend(0);
            needsWork(x, monday, monday + 7, 4);
            x.noHoliday(3);
            x.noHoliday(0);
            needsWork(x, monday, monday + 7, 5);
            x.clear();
            needsWork(x, monday, monday + 7, 5);
            // A year's holidays are not kept for the next walk, not even that of its first day.
            x.holiday(0, 1, 1, 0);
            needsWork(x, Due.number(2024, 1, 1), Due.number(2024, 1, 2), 0);
            x.noHoliday(0);
            needsWork(x, Due.number(2024, 1, 1), Due.number(2024, 1, 2), 1);
            x.holiday(0, 1, 1, 0);
            needsWork(x, Due.number(2024, 1, 1), Due.number(2024, 1, 2), 0);
        });
        Sentences.test(15, "(also if that is of another year; there is no year 10000).", () -> {
            CivilDays x = new CivilDays();
            x.weekend(0);
            x.holiday(3, 1, 1, 0);
            needsWork(x, Due.number(2021, 12, 31), Due.number(2022, 1, 3), 2);
            needsWork(x, Due.number(2021, 1, 1), Due.number(2022, 1, 1), 363);
            needsWork(x, Due.number(2022, 1, 1), Due.number(2023, 1, 1), 365);
            needsWork(x, Due.number(9999, 1, 1), Due.LAST, 363);
            needsWork(x, Due.LAST - 1, Due.LAST, 1);
            x.noHoliday(0);
            x.holiday(3, 12, 31, 0);
            needsWork(x, Due.number(2017, 12, 31), Due.number(2018, 1, 2), 1);
            needsWork(x, 0, 1, 1);
        });
        Sentences.test(15, "of years from 1583 on (also if that is of the year before).", () -> {
            CivilDays x = new CivilDays();
            x.weekend(0);
            x.holiday(1, -100, 0, 0);
            needsWork(x, Due.number(1582, 1, 1), Due.number(1582, 12, 31), 364);
            needsWork(x, Due.number(1582, 12, 31), Due.number(1583, 1, 1), 0);
            needsWork(x, Due.number(2022, 1, 1), Due.number(2023, 1, 1), 363);
            needsWork(x, Due.number(2024, 1, 1), Due.number(2025, 1, 1), 366);
        });
    }

    private static void workTooFar() {
        Sentences.test(15, "IllegalArgument: they are more than 4000 days from each other.", () -> {
            CivilDays x = new CivilDays();
            needsWork(x, 0, 3999, 2857);
            needsWork(x, 0, 4000, 2858);
            needsWork(x, 4000, 0, -2858);
            needsWork(x, Due.LAST - 4000, Due.LAST, 2858);
            needsWork(x, Due.LAST, Due.LAST - 4000, -2858);
            int[][] far = {{0, 4001}, {0, 4002}, {0, Due.LAST}, {Due.LAST - 4001, Due.LAST}};
            for (int[] f : far) {
                Laden.Maker maker = () -> {
                    CivilDays o = Laden.object();
                    o.days(3, f[0]);
                    o.days(4, f[1]);
                    return o;
                };
                String days = " from " + f[0] + " to " + f[1];
                Laden.refuses(maker, "work" + days, Check.NO_ARGUMENT, o -> o.work(3, 4));
                Laden.refuses(maker, "work back" + days, Check.NO_ARGUMENT, o -> o.work(4, 3));
            }
        });
    }

    private static CivilDays with(int year, int month, int day) {
        CivilDays x = new CivilDays();
        x.civil(0, year, month, day);
        return x;
    }

    private static void moveWork() {
        Sentences.test(16, "Moved on to the next working day behind it, so many times "
                + "(or back, if it is below 0): its number.", () -> {
            CivilDays x = with(2024, 7, 4);
            Check.same("on to a Friday", x.moveWork(0, 1), Due.number(2024, 7, 5));
            Check.same("the slot has it", x.told(0, 0), Due.number(2024, 7, 5));
            Check.same("on over a weekend", x.moveWork(0, 1), Due.number(2024, 7, 8));
            Check.same("back over a weekend", x.moveWork(0, -1), Due.number(2024, 7, 5));
            Check.same("a week on", x.moveWork(0, 5), Due.number(2024, 7, 12));
            Check.same("two weeks back", x.moveWork(0, -10), Due.number(2024, 6, 28));
            Check.same("on from a Saturday", with(2024, 7, 6).moveWork(0, 1), Due.number(2024, 7, 8));
            Check.same("back from a Saturday", with(2024, 7, 6).moveWork(0, -1), Due.number(2024, 7, 5));
            Check.same("on from a Sunday", with(2024, 7, 7).moveWork(0, 1), Due.number(2024, 7, 8));
            Check.same("back from a Sunday", with(2024, 7, 7).moveWork(0, -1), Due.number(2024, 7, 5));
            Check.same("no time, from a Friday", with(2024, 7, 5).moveWork(0, 0), Due.number(2024, 7, 5));
            Check.same("no time, from a Saturday", with(2024, 7, 6).moveWork(0, 0), Due.number(2024, 7, 6));
            CivilDays y = with(2024, 7, 6);
            y.moveWork(0, 0);
            Check.same("it stays a Saturday", y.told(0, 4), 6);
        });
    }

    private static void moveWorkOverHolidays() {
        Sentences.test(16, "A WORKING day is one that is not in it, and no holiday by any rule.", () -> {
            CivilDays x = with(2024, 7, 3);
            x.holiday(0, 12, 25, 0);
            x.holiday(0, 7, 4, 0);
            Check.same("on over a holiday", x.moveWork(0, 1), Due.number(2024, 7, 5));
            Check.same("back over a holiday", x.moveWork(0, -1), Due.number(2024, 7, 3));
            x.holiday(3, 7, 6, 0);
            Check.same("on over two and a weekend", x.moveWork(0, 1), Due.number(2024, 7, 8));
            Check.same("back over them", x.moveWork(0, -1), Due.number(2024, 7, 3));
            x.civil(0, 2024, 7, 4);
            Check.same("on from a holiday", x.moveWork(0, 1), Due.number(2024, 7, 8));
            x.weekend(126);
            Check.same("on to the next Monday", x.moveWork(0, 1), Due.number(2024, 7, 15));
            x.weekend(0);
            x.civil(0, 2024, 7, 5);
            Check.same("on to a Saturday", x.moveWork(0, 1), Due.number(2024, 7, 6));
            x.noHoliday(1);
            x.noHoliday(1);
            Check.same("back, without the rules that went", x.moveWork(0, -2), Due.number(2024, 7, 4));
        });
        Sentences.test(16, "(also if that is of another year; there is no year 10000).", () -> {
            CivilDays x = with(2021, 12, 30);
            x.holiday(3, 1, 1, 0);
            Check.same("over one of the next year", x.moveWork(0, 1), Due.number(2022, 1, 3));
            Check.same("back over it", x.moveWork(0, -1), Due.number(2021, 12, 30));
            x.days(0, Due.LAST - 1);
            Check.same("to the last day", x.moveWork(0, 1), Due.LAST);
            x.clear();
            x.holiday(3, 12, 31, 0);
            x.civil(0, 2017, 12, 29);
            Check.same("over one of the year before", x.moveWork(0, 1), Due.number(2018, 1, 2));
            Check.same("back over it", x.moveWork(0, -1), Due.number(2017, 12, 29));
            x.days(0, 1);
            Check.same("to the first day", x.moveWork(0, -1), 0);
        });
        Sentences.test(16, "(February 29 only in leap ones).", () -> {
            CivilDays x = with(2024, 2, 28);
            x.holiday(0, 2, 29, 0);
            Check.same("over February 29", x.moveWork(0, 1), Due.number(2024, 3, 1));
            x.civil(0, 2023, 2, 28);
            Check.same("to March 1", x.moveWork(0, 1), Due.number(2023, 3, 1));
            // The last day of a leap year is its 366th.
            x.holiday(0, 12, 31, 0);
            x.civil(0, 2024, 12, 30);
            Check.same("over the 366th day", x.moveWork(0, 1), Due.number(2025, 1, 1));
        });
    }

    private static void moveWorkTooMany() {
        Sentences.test(16, "IllegalArgument: it is not -1000 .. 1000.", () -> {
            int monday = Due.number(2024, 7, 1);
            CivilDays x = with(2024, 7, 1);
            Check.same("1000", x.moveWork(0, 1000), monday + 1400);
            Check.same("-1000", x.moveWork(0, -1000), monday);
            Check.same("999", x.moveWork(0, 999), monday + 1397);
            x.weekend(126);
            x.days(0, monday);
            Check.same("1000 Mondays", x.moveWork(0, 1000), monday + 7000);
            Check.same("1000 Mondays back", x.moveWork(0, -1000), monday);
            int[] none = {1001, -1001, 1002, 100000, Due.LEAST, Due.LEAST + 1, Due.GREATEST};
            for (int many : none) {
                Laden.refuses("moveWork(0, " + many + ")", Check.NO_ARGUMENT, o -> o.moveWork(0, many));
            }
        });
    }

    private static void moveWorkBeyondTheYears() {
        Sentences.test(16, "or a date beyond the years.", () -> {
            CivilDays x = new CivilDays();
            x.days(0, 4);
            Check.same("to the first day", x.moveWork(0, -4), 0);
            Check.same("no time, from the first day", x.moveWork(0, 0), 0);
            x.days(0, Due.LAST - 1);
            Check.same("to the last day", x.moveWork(0, 1), Due.LAST);
            Check.same("no time, from the last day", x.moveWork(0, 0), Due.LAST);
            beyond(96, 0, -1);
            beyond(96, 4, -5);
            beyond(96, 4, -1000);
            beyond(96, Due.LAST, 1);
            beyond(96, Due.LAST - 1, 2);
            beyond(96, Due.LAST - 1, 1000);
            // The first day is a Monday and the last one a Friday: not if they are of the weekend.
            beyond(1, 1, -1);
            beyond(1, 0, -1);
            beyond(16, Due.LAST - 1, 1);
            // January 1 to 12 are holidays of a laden object.
            beyond(0, 12, -1);
            beyond(0, 0, -1);
        });
    }

    private static void beyond(int weekend, int number, int many) {
        Laden.Maker maker = () -> {
            CivilDays x = Laden.object();
            x.weekend(weekend);
            x.days(3, number);
            for (int day = 12; weekend != 0 && day >= 1; day--) {
                x.noHoliday(day - 1);
            }
            return x;
        };
        Laden.refuses(maker, "moveWork of " + number + " by " + many + ", weekend " + weekend,
                Check.NO_ROOM, x -> x.moveWork(3, many));
    }
}
