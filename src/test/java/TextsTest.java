/** Promises 17 to 20: dates written, their characters, typing and reading. */
public final class TextsTest {
    public static void main(String[] args) {
        promise17Write();
        promise18CharAt();
        promise19Type();
        promise20Read();
        promise20Places();
        promise20NoSuchDate();
        promise20State();
        Check.finish();
    }

    private static String writtenText(CivilDays x, int text) {
        int many = x.write(0, text);
        StringBuilder s = new StringBuilder();
        for (int i = 0; i < many; i++) {
            s.append((char) x.charAt(i));
        }
        return s.toString();
    }

    private static void needsTexts(int year, int month, int day, String... want) {
        CivilDays x = new CivilDays();
        x.civil(0, year, month, day);
        for (int text = 0; text <= 2; text++) {
            Check.tell("17 text " + text + " of " + want[0], writtenText(x, text), want[text]);
        }
    }

    private static void promise17Write() {
        needsTexts(1, 1, 1, "0001-01-01", "0001-W01-1", "0001-001");
        needsTexts(9999, 12, 31, "9999-12-31", "9999-W52-5", "9999-365");
        needsTexts(2021, 1, 3, "2021-01-03", "2020-W53-7", "2021-003");
        needsTexts(2018, 12, 31, "2018-12-31", "2019-W01-1", "2018-365");
        needsTexts(476, 10, 9, "0476-10-09", "0476-W41-5", "0476-283");
        needsTexts(2020, 12, 31, "2020-12-31", "2020-W53-4", "2020-366");
        CivilDays x = new CivilDays();
        x.days(0, 0);
        Check.same("17 ten characters", x.write(0, 1), 10);
        Check.same("17 eight characters", x.write(0, 2), 8);
        Check.refused("17 text 3", Check.NO_ARGUMENT, () -> x.write(0, 3));
        Check.refused("17 text -1", Check.NO_ARGUMENT, () -> x.write(0, -1));
        Check.refused("17 no date", Check.NO_STATE, () -> x.write(1, 0));
        Check.refused("17 text before date", Check.NO_ARGUMENT, () -> x.write(1, 3));
        Check.refused("17 slot before text", Check.NO_INDEX, () -> x.write(10, 3));
        Check.same("17 the last text stays", x.charAt(7), '1');
        Check.refused("17 and its length", Check.NO_INDEX, () -> x.charAt(8));
    }

    private static void promise18CharAt() {
        CivilDays x = new CivilDays();
        Check.refused("18 nothing written", Check.NO_INDEX, () -> x.charAt(0));
        x.civil(0, 2020, 12, 31);
        x.write(0, 1);
        String want = "2020-W53-4";
        for (int i = 0; i < want.length(); i++) {
            Check.same("18 charAt " + i, x.charAt(i), want.charAt(i));
        }
        Check.refused("18 behind it", Check.NO_INDEX, () -> x.charAt(10));
        Check.refused("18 -1", Check.NO_INDEX, () -> x.charAt(-1));
        Check.refused("18 greatest", Check.NO_INDEX, () -> x.charAt(Integer.MAX_VALUE));
        Check.refused("18 least", Check.NO_INDEX, () -> x.charAt(Integer.MIN_VALUE));
        x.move(0, 1, 0);
        x.type('9');
        Check.same("18 neither a move nor typing writes", x.charAt(0), '2');
        x.write(0, 2);
        Check.refused("18 a shorter text", Check.NO_INDEX, () -> x.charAt(8));
    }

    private static void promise19Type() {
        CivilDays x = new CivilDays();
        for (int c : new int[] {31, 127, -1, 0, 256 + '2', Integer.MAX_VALUE, Integer.MIN_VALUE}) {
            Check.refused("19 type " + c, Check.NO_ARGUMENT, () -> x.type(c));
        }
        Check.same("19 32", x.type(32), 1);
        Check.same("19 126", x.type(126), 2);
        for (int many = 3; many <= 20; many++) {
            Check.same("19 character " + many, x.type('0'), many);
        }
        Check.refused("19 one more", Check.NO_ROOM, () -> x.type('0'));
        Check.refused("19 wrong and one more", Check.NO_ARGUMENT, () -> x.type(31));
        Check.same("19 the first of them", x.read(0), -1);
        Check.same("19 they went", x.type('0'), 1);
    }

    private static void typeAll(CivilDays x, String s) {
        for (int i = 0; i < s.length(); i++) {
            x.type(s.charAt(i));
        }
    }

    private static void needsRead(String s, int want) {
        CivilDays x = new CivilDays();
        x.days(4, 4321);
        typeAll(x, s);
        Check.same("20 read '" + s + "'", x.read(4), want);
        if (want < 0) {
            Check.same("20 the slot stays, '" + s + "'", x.told(4, 0), 4321);
        }
        Check.same("20 it goes, '" + s + "'", x.type('0'), 1);
    }

    private static void needsDate(String s, int text, int year, int month, int day) {
        needsRead(s, text);
        CivilDays x = new CivilDays();
        typeAll(x, s);
        x.read(7);
        Check.same("20 date of '" + s + "'", x.told(7, 0), x.civil(0, year, month, day));
    }

    private static void promise20Read() {
        needsDate("2020-02-29", 0, 2020, 2, 29);
        needsDate("0001-01-01", 0, 1, 1, 1);
        needsDate("9999-12-31", 0, 9999, 12, 31);
        needsDate("2020-W53-7", 1, 2021, 1, 3);
        needsDate("9999-W52-5", 1, 9999, 12, 31);
        needsDate("0001-W01-1", 1, 1, 1, 1);
        needsDate("2020-366", 2, 2020, 12, 31);
        needsDate("0001-001", 2, 1, 1, 1);
        needsDate("2019-060", 2, 2019, 3, 1);
    }

    private static void promise20Places() {
        String[] whole = {"2020-02-29", "2020-W53-7", "2020-366"};
        for (String s : whole) {
            for (int many = 0; many < s.length(); many++) {
                String begun = s.substring(0, many);
                needsRead(begun, -1 - many);
                needsRead(begun + "x", -1 - many);
                needsRead(begun + " " + s.substring(many), -1 - many);
            }
            needsRead(s + "0", -1 - s.length());
            needsRead(s + "-", -1 - s.length());
            needsRead(s + "          ", -1 - s.length());
        }
        needsRead("-2020-02-2", -1);
        needsRead("20200229", -5);
        needsRead("2020--", -6);
        needsRead("2020-w53-7", -6);
        needsRead("2020-0-29", -7);
        needsRead("2020-W5-7", -8);
        needsRead("2020-02W29", -8);
        needsRead("2020-02--9", -9);
        needsRead("2020-W5377", -9);
        needsRead("2020-3666", -9);
        needsRead("2020-366-", -9);
        needsRead("2020-W53-77", -11);
        needsRead("2020-0 ", -7);
        needsRead("202/-01-01", -4);
        needsRead("202:-01-01", -4);
        needsRead("99999999999999999999", -5);
        // What stands before the first wrong character is not yet asked whether it is a date.
        needsRead("0000-99-9x", -10);
    }

    private static void promise20NoSuchDate() {
        String[] none = {
            "0000-01-01", "2019-02-29", "2020-02-30", "2020-00-01", "2020-13-01", "2020-01-00",
            "2020-01-32", "2020-99-99", "0000-W01-1", "2019-W53-1", "2020-W54-1", "2020-W00-1",
            "2020-W01-0", "2020-W01-8", "9999-W52-6", "9999-W52-7", "0000-001", "2019-366",
            "2020-367", "2020-000", "2020-999",
        };
        for (String s : none) {
            needsRead(s, -30);
        }
    }

    private static void promise20State() {
        CivilDays x = new CivilDays();
        typeAll(x, "2020-366");
        Check.refused("20 slot 10", Check.NO_INDEX, () -> x.read(10));
        Check.refused("20 slot -1", Check.NO_INDEX, () -> x.read(-1));
        Check.same("20 a refused read leaves what was typed", x.read(0), 2);
        Check.same("20 nothing is left", x.read(0), -1);
        Check.same("20 the slot stays", x.told(0, 7), 366);
        typeAll(x, "2019-366");
        Check.same("20 no such date, into an empty slot", x.read(1), -30);
        Check.refused("20 the empty slot stays so", Check.NO_STATE, () -> x.told(1, 0));
        x.write(0, 0);
        Check.same("20 nothing written is read", x.read(0), -1);
    }
}
