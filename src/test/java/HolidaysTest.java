/** Promises 11 to 16: rules for holidays, the weekend, working days. */
public final class HolidaysTest {
    private static final int LAST = 3652058;

    public static void main(String[] args) {
        promise11Holiday();
        promise11Refused();
        promise12NoHoliday();
        promise13Weekend();
        promise14FixedAndNth();
        promise14Easter();
        promise14Observed();
        promise14First();
        promise15Work();
        promise16MoveWork();
        promise16Years();
        Check.finish();
    }

    private static CivilDays withRule(int kind, int a, int b, int c) {
        CivilDays x = new CivilDays();
        x.holiday(kind, a, b, c);
        return x;
    }

    private static void needsHoliday(CivilDays x, int year, int month, int day, int want) {
        x.civil(0, year, month, day);
        Check.same("14 isHoliday " + year + "-" + month + "-" + day, x.isHoliday(0), want);
    }

    private static void promise11Holiday() {
        CivilDays x = new CivilDays();
        int[][] rules = {
            {0, 1, 31, Integer.MIN_VALUE}, {0, 2, 29, 0}, {0, 12, 31, 99}, {3, 2, 29, -7},
            {1, -100, 99, 99}, {1, 100, -99, -99}, {2, 1, 1, 1}, {2, 12, 7, 4}, {2, 6, 3, -1},
            {3, 4, 30, 0}, {1, 0, 0, 0}, {0, 1, 1, 0},
        };
        int many = 0;
        for (int[] r : rules) {
            many++;
            Check.same("11 rule " + many, x.holiday(r[0], r[1], r[2], r[3]), many);
        }
        Check.refused("11 a thirteenth", Check.NO_ROOM, () -> x.holiday(0, 1, 1, 0));
        Check.refused("11 wrong and too many", Check.NO_ARGUMENT, () -> x.holiday(0, 2, 30, 0));
        Check.same("11 room again", x.noHoliday(0), 11);
        Check.same("11 the twelfth again", x.holiday(0, 1, 1, 0), 12);
    }

    private static void promise11Refused() {
        CivilDays x = new CivilDays();
        int[][] none = {
            {-1, 1, 1, 1}, {4, 1, 1, 1}, {Integer.MAX_VALUE, 1, 1, 1}, {Integer.MIN_VALUE, 1, 1, 1},
            {0, 0, 1, 0}, {0, 13, 1, 0}, {0, 1, 0, 0}, {0, 1, 32, 0}, {0, 2, 30, 0}, {0, 4, 31, 0},
            {3, 0, 1, 0}, {3, 13, 1, 0}, {3, 1, 0, 0}, {3, 1, 32, 0}, {3, 2, 30, 0}, {3, 11, 31, 0},
            {1, -101, 0, 0}, {1, 101, 0, 0}, {1, Integer.MIN_VALUE, 0, 0},
            {2, 0, 1, 1}, {2, 13, 1, 1}, {2, 1, 0, 1}, {2, 1, 8, 1}, {2, 1, 1, 0}, {2, 1, 1, 5},
            {2, 1, 1, -2}, {2, 1, 1, Integer.MIN_VALUE},
        };
        for (int[] r : none) {
            Check.refused("11 holiday " + r[0] + " " + r[1] + " " + r[2] + " " + r[3],
                    Check.NO_ARGUMENT, () -> x.holiday(r[0], r[1], r[2], r[3]));
        }
        Check.same("11 none of them stayed", x.holiday(0, 1, 1, 0), 1);
    }

    private static void promise12NoHoliday() {
        CivilDays x = new CivilDays();
        x.holiday(0, 1, 1, 0);
        x.holiday(0, 1, 2, 0);
        x.holiday(0, 1, 3, 0);
        Check.refused("12 behind the last", Check.NO_INDEX, () -> x.noHoliday(3));
        Check.refused("12 -1", Check.NO_INDEX, () -> x.noHoliday(-1));
        Check.same("12 the middle one", x.noHoliday(1), 2);
        needsHoliday(x, 2020, 1, 1, 0);
        needsHoliday(x, 2020, 1, 2, CivilDays.NONE);
        needsHoliday(x, 2020, 1, 3, 1);
        Check.same("12 the last one", x.noHoliday(1), 1);
        Check.same("12 the only one", x.noHoliday(0), 0);
        Check.refused("12 there is none", Check.NO_INDEX, () -> x.noHoliday(0));
    }

    private static void promise13Weekend() {
        CivilDays x = new CivilDays();
        Check.same("13 at first", x.weekend(0), 96);
        Check.same("13 none", x.weekend(126), 0);
        for (int set : new int[] {127, 128, -1, Integer.MAX_VALUE, Integer.MIN_VALUE}) {
            Check.refused("13 weekend " + set, Check.NO_ARGUMENT, () -> x.weekend(set));
        }
        Check.same("13 a refused one changes nothing", x.weekend(1), 126);
        x.days(0, 0);
        x.days(1, 7);
        for (int set = 0; set <= 126; set++) {
            x.weekend(set);
            Check.same("13 working days, weekend " + set, x.work(0, 1), 7 - Integer.bitCount(set));
        }
        x.weekend(1 << 2);
        Check.same("13 2^(d - 1): Wednesday", x.moveWork(0, 2), 3);
    }

    private static void promise14FixedAndNth() {
        CivilDays x = withRule(0, 2, 29, 0);
        needsHoliday(x, 2024, 2, 29, 0);
        needsHoliday(x, 2023, 2, 28, -1);
        needsHoliday(x, 2023, 3, 1, -1);
        x = withRule(0, 12, 31, 0);
        needsHoliday(x, 9999, 12, 31, 0);
        needsHoliday(x, 1, 12, 31, 0);
        needsHoliday(x, 1, 1, 1, -1);
        x = withRule(2, 11, 4, 4);
        needsHoliday(x, 2024, 11, 28, 0);
        needsHoliday(x, 2024, 11, 21, -1);
        needsHoliday(x, 2024, 10, 24, -1);
        x = withRule(2, 5, 1, -1);
        needsHoliday(x, 2024, 5, 27, 0);
        needsHoliday(x, 2021, 5, 31, 0);
        needsHoliday(x, 2021, 5, 24, -1);
        x = withRule(2, 1, 1, 1);
        needsHoliday(x, 1, 1, 1, 0);
    }

    private static void promise14Easter() {
        CivilDays x = withRule(1, -100, 0, 0);
        needsHoliday(x, 1817, 12, 12, 0);
        needsHoliday(x, 1582, 12, 31, 0);
        x = withRule(1, 0, 0, 0);
        needsHoliday(x, 2024, 3, 31, 0);
        needsHoliday(x, 1583, 4, 10, 0);
        needsHoliday(x, 1582, 4, 15, -1);
        needsHoliday(x, 1582, 4, 18, -1);
        x = withRule(1, 100, 0, 0);
        needsHoliday(x, 9999, 7, 6, 0);
        needsHoliday(x, 1886, 8, 3, 0);
        x = withRule(1, 1, 0, 0);
        needsHoliday(x, 2024, 4, 1, 0);
        x = withRule(1, -2, 0, 0);
        needsHoliday(x, 2024, 3, 29, 0);
    }

    private static void promise14Observed() {
        CivilDays x = withRule(3, 1, 1, 0);
        needsHoliday(x, 2021, 12, 31, 0);
        needsHoliday(x, 2022, 1, 1, -1);
        needsHoliday(x, 2023, 1, 1, -1);
        needsHoliday(x, 2023, 1, 2, 0);
        needsHoliday(x, 2024, 1, 1, 0);
        needsHoliday(x, 1, 1, 1, 0);
        // January 1 of a year 10000 would be a Saturday.
        needsHoliday(x, 9999, 12, 31, -1);
        x = withRule(3, 12, 31, 0);
        needsHoliday(x, 2025, 1, 1, -1);
        needsHoliday(x, 2018, 1, 1, 0);
        needsHoliday(x, 2017, 12, 31, -1);
        needsHoliday(x, 2022, 12, 30, 0);
        needsHoliday(x, 2022, 12, 31, -1);
        needsHoliday(x, 9999, 12, 31, 0);
        // December 31 of a year 0 would be a Sunday.
        needsHoliday(x, 1, 1, 1, -1);
        x = withRule(3, 2, 29, 0);
        needsHoliday(x, 2020, 2, 28, 0);
        needsHoliday(x, 2020, 2, 29, -1);
        needsHoliday(x, 2032, 3, 1, 0);
        needsHoliday(x, 2024, 2, 29, 0);
        needsHoliday(x, 2023, 3, 1, -1);
        // What is Saturday and Sunday does not go by the weekend.
        x.weekend(0);
        needsHoliday(x, 2020, 2, 28, 0);
    }

    private static void promise14First() {
        CivilDays x = withRule(0, 7, 4, 0);
        x.holiday(3, 7, 4, 0);
        x.holiday(0, 7, 5, 0);
        needsHoliday(x, 2024, 7, 4, 0);
        needsHoliday(x, 2021, 7, 5, 1);
        needsHoliday(x, 2022, 7, 5, 2);
        needsHoliday(x, 2022, 7, 6, CivilDays.NONE);
        Check.refused("14 no date", Check.NO_STATE, () -> x.isHoliday(1));
        Check.refused("14 slot 10", Check.NO_INDEX, () -> x.isHoliday(10));
        Check.refused("14 slot -1", Check.NO_INDEX, () -> x.isHoliday(-1));
    }

    private static void promise15Work() {
        CivilDays x = new CivilDays();
        x.civil(0, 2024, 7, 1);
        x.civil(1, 2024, 7, 6);
        Check.same("15 Monday to Saturday", x.work(0, 1), 5);
        Check.same("15 and back", x.work(1, 0), -5);
        x.holiday(0, 7, 4, 0);
        x.holiday(3, 7, 4, 0);
        Check.same("15 a holiday by two rules goes once", x.work(0, 1), 4);
        x.move(1, -2, 0);
        Check.same("15 without the other date", x.work(0, 1), 3);
        Check.same("15 back, without the first", x.work(1, 0), -3);
        Check.same("15 to itself", x.work(0, 0), 0);
        x.holiday(0, 7, 6, 0);
        x.move(1, 2, 0);
        Check.same("15 a holiday in the weekend goes once", x.work(0, 1), 4);
        x.noHoliday(0);
        x.noHoliday(0);
        Check.same("15 rules that went count no more", x.work(0, 1), 5);
        x.days(2, 0);
        x.days(3, 4000);
        Check.same("15 4000 days", x.work(2, 3), 2858 - 8);
        Check.same("15 4000 days back", x.work(3, 2), -(2858 - 8));
        x.civil(4, 2021, 12, 27);
        x.civil(5, 2023, 1, 9);
        x.holiday(3, 1, 1, 0);
        Check.same("15 over two years' ends", x.work(4, 5), 270 - 1 - 1 - 1);
        x.days(3, 4001);
        Check.refused("15 4001 days", Check.NO_ARGUMENT, () -> x.work(2, 3));
        Check.refused("15 4001 days back", Check.NO_ARGUMENT, () -> x.work(3, 2));
        x.days(3, LAST);
        Check.refused("15 all days", Check.NO_ARGUMENT, () -> x.work(3, 2));
        Check.refused("15 first has no date", Check.NO_STATE, () -> x.work(9, 0));
        Check.refused("15 other has no date", Check.NO_STATE, () -> x.work(0, 9));
        Check.refused("15 first slot", Check.NO_INDEX, () -> x.work(10, 9));
        Check.refused("15 other slot", Check.NO_INDEX, () -> x.work(9, 10));
    }

    private static void promise16MoveWork() {
        CivilDays x = new CivilDays();
        x.civil(0, 2024, 7, 6);
        Check.same("16 nowhere, from a weekend", x.moveWork(0, 0), x.told(0, 0));
        Check.same("16 on from a Saturday", x.moveWork(0, 1), x.civil(1, 2024, 7, 8));
        Check.same("16 back to a Friday", x.moveWork(0, -1), x.civil(1, 2024, 7, 5));
        x.holiday(0, 7, 4, 0);
        Check.same("16 back over a holiday", x.moveWork(0, -1), x.civil(1, 2024, 7, 3));
        Check.same("16 it is kept", x.told(0, 3), 3);
        Check.same("16 on over it and a weekend", x.moveWork(0, 2), x.civil(1, 2024, 7, 8));
        Check.refused("16 1001", Check.NO_ARGUMENT, () -> x.moveWork(0, 1001));
        Check.refused("16 -1001", Check.NO_ARGUMENT, () -> x.moveWork(0, -1001));
        Check.refused("16 least", Check.NO_ARGUMENT, () -> x.moveWork(0, Integer.MIN_VALUE));
        Check.refused("16 no date before many", Check.NO_STATE, () -> x.moveWork(5, 1001));
        Check.refused("16 slot first", Check.NO_INDEX, () -> x.moveWork(10, 1001));
        x.noHoliday(0);
        Check.same("16 1000", x.moveWork(0, 1000), x.told(1, 0) + 1400);
        Check.same("16 -1000", x.moveWork(0, -1000), x.told(1, 0));
    }

    private static void promise16Years() {
        CivilDays x = new CivilDays();
        x.days(0, 4);
        Check.refused("16 before year 1", Check.NO_ROOM, () -> x.moveWork(0, -5));
        Check.refused("16 far before year 1", Check.NO_ROOM, () -> x.moveWork(0, -1000));
        Check.same("16 the slot stays", x.told(0, 0), 4);
        Check.same("16 to the first day", x.moveWork(0, -4), 0);
        x.days(0, LAST - 1);
        Check.refused("16 behind 9999", Check.NO_ROOM, () -> x.moveWork(0, 2));
        Check.same("16 the slot stays", x.told(0, 0), LAST - 1);
        Check.same("16 to the last day", x.moveWork(0, 1), LAST);
        Check.refused("16 from the last day", Check.NO_ROOM, () -> x.moveWork(0, 1));
        Check.same("16 nowhere from the last day", x.moveWork(0, 0), LAST);
        walksOverNewYear(x);
    }

    private static void walksOverNewYear(CivilDays x) {
        x.holiday(3, 1, 1, 0);
        x.civil(0, 2021, 12, 30);
        Check.same("16 over a holiday of the next year", x.moveWork(0, 1), x.civil(1, 2022, 1, 3));
        Check.same("16 back over it", x.moveWork(0, -1), x.civil(1, 2021, 12, 30));
        x.civil(0, 2018, 12, 31);
        Check.same("16 over January 1", x.moveWork(0, 1), x.civil(1, 2019, 1, 2));
        Check.same("16 back over January 1", x.moveWork(0, -1), x.civil(1, 2018, 12, 31));
        x.noHoliday(0);
        x.holiday(3, 12, 31, 0);
        x.civil(0, 2017, 12, 29);
        Check.same("16 over a holiday of the last year", x.moveWork(0, 1), x.civil(1, 2018, 1, 2));
        Check.same("16 back over that", x.moveWork(0, -1), x.civil(1, 2017, 12, 29));
        x.civil(0, 1, 1, 2);
        Check.same("16 no holiday from a year 0", x.moveWork(0, -1), 0);
    }
}
