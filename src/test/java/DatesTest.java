/** Promises 1 to 10 and 21: dates into slots, told, moved, compared, copied, cleared. */
public final class DatesTest {
    private static final int LAST = 3652058;

    public static void main(String[] args) {
        promise1NewObject();
        promise2Civil();
        promise3Days();
        promise4Week();
        promise5Easter();
        promise6Nth();
        promise7Move();
        promise8Told();
        promise9Between();
        promise10Copy();
        promise21Clear();
        Check.finish();
    }

    private static void promise1NewObject() {
        CivilDays x = new CivilDays();
        needsNew("1 new", x);
        Check.same("1 noHoliday leaves the rule that came first", x.holiday(0, 1, 1, 0), 1);
    }

    /** Asks all that can be asked of an object without a date, a rule, a text. */
    private static void needsNew(String what, CivilDays x) {
        for (int slot = 0; slot <= 9; slot++) {
            int s = slot;
            Check.refused(what + " told " + s, Check.NO_STATE, () -> x.told(s, 0));
        }
        Check.refused(what + " noHoliday", Check.NO_INDEX, () -> x.noHoliday(0));
        Check.refused(what + " charAt", Check.NO_INDEX, () -> x.charAt(0));
        Check.same(what + " read", x.read(0), -1);
        Check.same(what + " weekend", x.weekend(96), 96);
    }

    private static void promise2Civil() {
        CivilDays x = new CivilDays();
        Check.same("2 first", x.civil(0, 1, 1, 1), 0);
        Check.same("2 first is told", x.told(0, 0), 0);
        Check.same("2 last", x.civil(9, 9999, 12, 31), LAST);
        Check.same("2 2000-02-29", x.civil(3, 2000, 2, 29), 730178);
        Check.same("2 2000-03-01", x.civil(3, 2000, 3, 1), 730179);
        Check.same("2 1970-01-01", x.civil(3, 1970, 1, 1), 719162);
        int[][] none = {
            {0, 1, 1}, {-1, 1, 1}, {10000, 1, 1}, {2020, 0, 1}, {2020, 13, 1}, {2020, 1, 0},
            {2020, 1, 32}, {2020, 4, 31}, {2020, 2, 30}, {2019, 2, 29}, {1900, 2, 29},
            {2020, -1, 1}, {2020, 1, -1}, {Integer.MAX_VALUE, 1, 1}, {Integer.MIN_VALUE, 1, 1},
            {2020, Integer.MAX_VALUE, 1}, {2020, Integer.MIN_VALUE, 1},
            {2020, 1, Integer.MAX_VALUE}, {2020, 1, Integer.MIN_VALUE},
        };
        for (int[] d : none) {
            Check.refused("2 civil " + d[0] + " " + d[1] + " " + d[2], Check.NO_ARGUMENT,
                    () -> x.civil(3, d[0], d[1], d[2]));
        }
        Check.same("2 a refused call leaves the slot", x.told(3, 0), 719162);
        Check.refused("2 slot -1", Check.NO_INDEX, () -> x.civil(-1, 2020, 1, 1));
        Check.refused("2 slot 10 before the date", Check.NO_INDEX, () -> x.civil(10, 2020, 13, 1));
    }

    private static void promise3Days() {
        CivilDays x = new CivilDays();
        Check.same("3 first is a Monday", x.days(0, 0), 1);
        Check.same("3 sixth", x.days(0, 6), 7);
        Check.same("3 its number", x.told(0, 0), 6);
        Check.same("3 last is a Friday", x.days(1, LAST), 5);
        Check.refused("3 -1", Check.NO_ARGUMENT, () -> x.days(0, -1));
        Check.refused("3 last + 1", Check.NO_ARGUMENT, () -> x.days(0, LAST + 1));
        Check.refused("3 least", Check.NO_ARGUMENT, () -> x.days(0, Integer.MIN_VALUE));
        Check.refused("3 greatest", Check.NO_ARGUMENT, () -> x.days(0, Integer.MAX_VALUE));
        Check.refused("3 slot first", Check.NO_INDEX, () -> x.days(10, -1));
        Check.same("3 the slot stays", x.told(0, 0), 6);
    }

    private static void promise4Week() {
        CivilDays x = new CivilDays();
        Check.same("4 year 1", x.week(0, 1, 1, 1), 0);
        Check.same("4 last", x.week(0, 9999, 52, 5), LAST);
        Check.refused("4 beyond", Check.NO_ARGUMENT, () -> x.week(0, 9999, 52, 6));
        Check.refused("4 beyond, Sunday", Check.NO_ARGUMENT, () -> x.week(0, 9999, 52, 7));
        Check.same("4 2020-W53-7 is 2021-01-03", x.week(0, 2020, 53, 7), x.civil(1, 2021, 1, 3));
        Check.same("4 2019-W01-1 is 2018-12-31", x.week(0, 2019, 1, 1), x.civil(1, 2018, 12, 31));
        Check.same("4 2016-W01-1 is 2016-01-04", x.week(0, 2016, 1, 1), x.civil(1, 2016, 1, 4));
        int[][] none = {
            {0, 1, 1}, {10000, 1, 1}, {2021, 53, 1}, {2020, 54, 1}, {2021, 0, 1}, {2021, -1, 1},
            {2021, 1, 0}, {2021, 1, 8}, {9999, 53, 1}, {Integer.MAX_VALUE, 1, 1},
            {2021, Integer.MAX_VALUE, 1}, {2021, Integer.MIN_VALUE, 1},
            {2021, 1, Integer.MAX_VALUE}, {Integer.MIN_VALUE, 1, 1},
        };
        for (int[] d : none) {
            Check.refused("4 week " + d[0] + " " + d[1] + " " + d[2], Check.NO_ARGUMENT,
                    () -> x.week(0, d[0], d[1], d[2]));
        }
        Check.refused("4 slot first", Check.NO_INDEX, () -> x.week(-1, 2021, 0, 1));
        Check.same("4 the slot stays", x.told(0, 0), x.told(1, 0));
    }

    private static void promise5Easter() {
        CivilDays x = new CivilDays();
        int[][] known = {
            {1583, 4, 10}, {1818, 3, 22}, {1886, 4, 25}, {1943, 4, 25}, {1954, 4, 18},
            {1961, 4, 2}, {1981, 4, 19}, {2000, 4, 23}, {2008, 3, 23}, {2024, 3, 31},
            {2025, 4, 20}, {2038, 4, 25}, {2285, 3, 22}, {9999, 3, 28},
        };
        for (int[] e : known) {
            Check.same("5 easter " + e[0], x.easter(0, e[0]), x.civil(1, e[0], e[1], e[2]));
            Check.same("5 kept " + e[0], x.told(0, 0), x.told(1, 0));
        }
        for (int year : new int[] {1582, 1, 0, -1, 10000, Integer.MAX_VALUE, Integer.MIN_VALUE}) {
            Check.refused("5 easter " + year, Check.NO_ARGUMENT, () -> x.easter(0, year));
        }
        Check.refused("5 slot first", Check.NO_INDEX, () -> x.easter(10, 1582));
    }

    private static void promise6Nth() {
        CivilDays x = new CivilDays();
        Check.same("6 4th Thursday", x.nth(0, 2024, 11, 4, 4), x.civil(1, 2024, 11, 28));
        Check.same("6 5th Thursday", x.nth(0, 2024, 2, 4, 5), x.civil(1, 2024, 2, 29));
        Check.same("6 first is the 1st", x.nth(0, 2024, 7, 1, 1), x.civil(1, 2024, 7, 1));
        Check.same("6 first is the 7th", x.nth(0, 2024, 7, 7, 1), x.civil(1, 2024, 7, 7));
        Check.same("6 last Monday", x.nth(0, 2024, 5, 1, -1), x.civil(1, 2024, 5, 27));
        Check.same("6 last is the last day", x.nth(0, 2024, 5, 5, -1), x.civil(1, 2024, 5, 31));
        Check.same("6 5th from the end", x.nth(0, 2024, 5, 3, -5), x.civil(1, 2024, 5, 1));
        Check.same("6 2nd from the end", x.nth(0, 2023, 2, 2, -2), x.civil(1, 2023, 2, 21));
        Check.same("6 the very first", x.nth(0, 1, 1, 1, 1), 0);
        Check.same("6 the very last", x.nth(0, 9999, 12, 5, -1), LAST);
        int[][] none = {
            {2023, 2, 4, 5}, {2023, 2, 4, -5}, {2024, 5, 1, -5}, {2024, 5, 1, 0}, {2024, 5, 1, 6},
            {2024, 5, 1, -6}, {2024, 5, 0, 1}, {2024, 5, 8, 1}, {2024, 0, 1, 1}, {2024, 13, 1, 1},
            {0, 5, 1, 1}, {10000, 1, 1, 1}, {2024, 5, 3, Integer.MAX_VALUE},
            {2024, 5, 3, Integer.MIN_VALUE}, {2024, 5, Integer.MIN_VALUE, 1},
            // 7 times these wraps around to a few days in 32 bits.
            {2024, 5, 3, 613566758}, {2024, 5, 3, -613566758},
            {2024, Integer.MAX_VALUE, 1, 1}, {Integer.MIN_VALUE, 5, 1, 1},
        };
        for (int[] d : none) {
            Check.refused("6 nth " + d[0] + " " + d[1] + " " + d[2] + " " + d[3], Check.NO_ARGUMENT,
                    () -> x.nth(0, d[0], d[1], d[2], d[3]));
        }
        Check.same("6 the slot stays", x.told(0, 0), LAST);
        Check.refused("6 slot first", Check.NO_INDEX, () -> x.nth(10, 2024, 5, 1, 0));
    }

    private static void promise7Move() {
        CivilDays x = new CivilDays();
        x.civil(0, 2024, 1, 31);
        Check.same("7 a month on, to a last day", x.move(0, 1, 1), x.civil(1, 2024, 2, 29));
        Check.same("7 it is kept", x.told(0, 3), 29);
        Check.same("7 a year on", x.move(0, 1, 2), x.civil(1, 2025, 2, 28));
        Check.same("7 months back", x.move(0, -14, 1), x.civil(1, 2023, 12, 28));
        Check.same("7 days on", x.move(0, 4, 0), x.civil(1, 2024, 1, 1));
        Check.same("7 days back", x.move(0, -1, 0), x.civil(1, 2023, 12, 31));
        Check.same("7 months back, to a last day", x.move(0, -1, 1), x.civil(1, 2023, 11, 30));
        Check.same("7 years back", x.move(0, -2022, 2), x.civil(1, 1, 11, 30));
        Check.same("7 nothing", x.move(0, 0, 2), x.civil(1, 1, 11, 30));
        x.days(0, 0);
        Check.refused("7 before year 1, day", Check.NO_ROOM, () -> x.move(0, -1, 0));
        Check.refused("7 before year 1, month", Check.NO_ROOM, () -> x.move(0, -1, 1));
        Check.refused("7 before year 1, year", Check.NO_ROOM, () -> x.move(0, -1, 2));
        Check.same("7 to the last day", x.move(0, LAST, 0), LAST);
        Check.refused("7 behind 9999, day", Check.NO_ROOM, () -> x.move(0, 1, 0));
        Check.refused("7 behind 9999, month", Check.NO_ROOM, () -> x.move(0, 1, 1));
        Check.refused("7 behind 9999, year", Check.NO_ROOM, () -> x.move(0, 1, 2));
        for (int unit = 0; unit <= 2; unit++) {
            int u = unit;
            Check.refused("7 greatest " + u, Check.NO_ROOM, () -> x.move(0, Integer.MAX_VALUE, u));
            Check.refused("7 least " + u, Check.NO_ROOM, () -> x.move(0, Integer.MIN_VALUE, u));
        }
        // 12 times these wraps around to a small number in 32 bits.
        Check.refused("7 years that wrap", Check.NO_ROOM, () -> x.move(0, -1073741824, 2));
        Check.refused("7 years that wrap", Check.NO_ROOM, () -> x.move(0, 1073741824, 2));
        Check.same("7 the slot stays", x.told(0, 0), LAST);
        Check.same("7 to the first month", x.move(0, -119987, 1), x.civil(1, 1, 1, 31));
        Check.refused("7 unit 3", Check.NO_ARGUMENT, () -> x.move(0, 0, 3));
        Check.refused("7 unit -1", Check.NO_ARGUMENT, () -> x.move(0, 0, -1));
        Check.refused("7 no date", Check.NO_STATE, () -> x.move(2, 1, 0));
        Check.refused("7 unit before date", Check.NO_ARGUMENT, () -> x.move(2, 1, 3));
        Check.refused("7 slot before unit", Check.NO_INDEX, () -> x.move(10, 1, 3));
    }

    private static void promise8Told() {
        CivilDays x = new CivilDays();
        x.civil(0, 2021, 1, 3);
        allTold(x, 737792, 2021, 1, 3, 7, 2020, 53, 3, 0, 31, 53);
        x.civil(0, 2024, 2, 29);
        allTold(x, 738944, 2024, 2, 29, 4, 2024, 9, 60, 1, 29, 52);
        x.civil(0, 2018, 12, 31);
        allTold(x, 737058, 2018, 12, 31, 1, 2019, 1, 365, 0, 31, 52);
        x.civil(0, 1900, 2, 28);
        allTold(x, 693653, 1900, 2, 28, 3, 1900, 9, 59, 0, 28, 52);
        x.civil(0, 2023, 3, 1);
        allTold(x, 738579, 2023, 3, 1, 3, 2023, 9, 60, 0, 31, 52);
        x.civil(0, 2000, 12, 31);
        allTold(x, 730484, 2000, 12, 31, 7, 2000, 52, 366, 1, 31, 52);
        x.days(0, LAST);
        allTold(x, LAST, 9999, 12, 31, 5, 9999, 52, 365, 0, 31, 52);
        Check.refused("8 what 11", Check.NO_ARGUMENT, () -> x.told(0, 11));
        Check.refused("8 what -1", Check.NO_ARGUMENT, () -> x.told(0, -1));
        Check.refused("8 no date", Check.NO_STATE, () -> x.told(1, 10));
        Check.refused("8 what before date", Check.NO_ARGUMENT, () -> x.told(1, 11));
        Check.refused("8 slot before what", Check.NO_INDEX, () -> x.told(-1, 11));
    }

    private static void allTold(CivilDays x, int... want) {
        for (int what = 0; what < want.length; what++) {
            Check.same("8 told " + what + " of " + want[0], x.told(0, what), want[what]);
        }
    }

    private static void promise9Between() {
        needsBetween(new int[] {2024, 1, 31}, new int[] {2024, 2, 29}, 29, 1, 0);
        needsBetween(new int[] {2024, 1, 31}, new int[] {2024, 2, 28}, 28, 0, 0);
        needsBetween(new int[] {2024, 1, 31}, new int[] {2024, 3, 30}, 59, 1, 0);
        needsBetween(new int[] {2000, 2, 29}, new int[] {2001, 2, 28}, 365, 12, 1);
        needsBetween(new int[] {2000, 2, 29}, new int[] {2001, 2, 27}, 364, 11, 0);
        needsBetween(new int[] {2000, 2, 29}, new int[] {2004, 2, 28}, 1460, 47, 3);
        needsBetween(new int[] {2020, 5, 15}, new int[] {2020, 5, 15}, 0, 0, 0);
        needsBetween(new int[] {1, 1, 1}, new int[] {9999, 12, 31}, LAST, 119987, 9998);
        CivilDays x = new CivilDays();
        x.days(0, 0);
        Check.refused("9 first slot", Check.NO_INDEX, () -> x.between(10, 0, 0));
        Check.refused("9 other slot before unit", Check.NO_INDEX, () -> x.between(1, -1, 3));
        Check.refused("9 unit before date", Check.NO_ARGUMENT, () -> x.between(0, 1, 3));
        Check.refused("9 unit -1", Check.NO_ARGUMENT, () -> x.between(0, 0, -1));
        Check.refused("9 other has no date", Check.NO_STATE, () -> x.between(0, 1, 0));
        Check.refused("9 first has no date", Check.NO_STATE, () -> x.between(1, 0, 0));
    }

    private static void needsBetween(int[] from, int[] to, int... want) {
        CivilDays x = new CivilDays();
        x.civil(0, from[0], from[1], from[2]);
        x.civil(1, to[0], to[1], to[2]);
        for (int unit = 0; unit <= 2; unit++) {
            Check.same("9 between, unit " + unit, x.between(0, 1, unit), want[unit]);
            Check.same("9 back, unit " + unit, x.between(1, 0, unit), -want[unit]);
        }
    }

    private static void promise10Copy() {
        CivilDays x = new CivilDays();
        x.days(0, 77);
        Check.same("10 copy", x.copy(0, 9), 77);
        Check.same("10 it came", x.told(9, 0), 77);
        Check.same("10 it stayed, too", x.told(0, 0), 77);
        x.move(0, 1, 0);
        Check.same("10 they are two", x.told(9, 0), 77);
        Check.same("10 to itself", x.copy(0, 0), 78);
        Check.refused("10 no date", Check.NO_STATE, () -> x.copy(5, 0));
        Check.same("10 the slot stays", x.told(0, 0), 78);
        Check.refused("10 from", Check.NO_INDEX, () -> x.copy(10, 0));
        Check.refused("10 to", Check.NO_INDEX, () -> x.copy(0, -1));
        Check.refused("10 to, before the date", Check.NO_INDEX, () -> x.copy(5, 10));
    }

    private static void promise21Clear() {
        CivilDays x = new CivilDays();
        for (int slot = 0; slot <= 9; slot++) {
            x.days(slot, slot);
        }
        x.holiday(0, 1, 1, 0);
        x.holiday(0, 1, 2, 0);
        x.weekend(3);
        x.write(0, 0);
        x.type('2');
        x.clear();
        needsNew("21 cleared", x);
        Check.same("21 rules begin anew", x.holiday(0, 5, 1, 0), 1);
        Check.same("21 typing begins anew", x.type('2'), 1);
    }
}
