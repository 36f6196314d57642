/** Promises 17 to 20: dates written, their characters, typing and reading. */
final class TextSentences {
    private static final String[] WHOLE = {"2020-02-29", "2020-W53-7", "2020-366"};
    private static final String TWENTY = "2019-060            ";

    private TextSentences() {
    }

    static void run() {
        write();
        writtenTexts();
        charAt();
        type();
        typeRefused();
        read();
        readPlaces();
        readMissing();
        readNoSuchDate();
        readSlotStays();
    }

    private static void write() {
        Sentences.test(17, "A date is written as text 0 .. 2: how many characters.", () -> {
            for (int slot : new int[] {Laden.SOME_DATE, Laden.FIRST_DATE, Laden.LAST_DATE}) {
                CivilDays x = Laden.object();
                Check.same("text 0", x.write(slot, 0), 10);
                Check.same("text 1", x.write(slot, 1), 10);
                Check.same("text 2", x.write(slot, 2), 8);
            }
            CivilDays x = Laden.object();
            x.write(Laden.LAST_DATE, 0);
            Check.same("the slot stays", x.told(Laden.LAST_DATE, 0), Due.LAST);
            Check.same("what is typed stays", x.read(0), 2);
        });
        Sentences.test(17, "IllegalArgument: another text.", () -> {
            for (int text : new int[] {-1, -2, 3, 4, Due.LEAST, Due.GREATEST}) {
                Laden.refuses("write(0, " + text + ")", Check.NO_ARGUMENT, x -> x.write(0, text));
            }
        });
    }

    private static String written(int year, int month, int day, int text) {
        CivilDays x = new CivilDays();
        x.civil(0, year, month, day);
        int many = x.write(0, text);
        StringBuilder s = new StringBuilder();
        for (int i = 0; i < many; i++) {
            s.append((char) x.charAt(i));
        }
        return s.toString();
    }

    private static void needsText(int text, int year, int month, int day, String want) {
        Check.tell("text " + text + " of " + year + "-" + month + "-" + day,
                written(year, month, day, text), want);
    }

    private static void writtenTexts() {
        Sentences.test(17, "TEXTS: 0: year, month, day: YYYY-MM-DD", () -> {
            needsText(0, 2020, 12, 31, "2020-12-31");
            needsText(0, 2021, 1, 3, "2021-01-03");
            needsText(0, 2024, 2, 29, "2024-02-29");
            needsText(0, 9999, 12, 31, "9999-12-31");
        });
        Sentences.test(17, "1: year and number of the week, weekday: YYYY-Www-D", () -> {
            needsText(1, 2020, 12, 31, "2020-W53-4");
            needsText(1, 2021, 1, 3, "2020-W53-7");
            needsText(1, 2021, 1, 4, "2021-W01-1");
            needsText(1, 2018, 12, 31, "2019-W01-1");
            needsText(1, 9999, 12, 31, "9999-W52-5");
        });
        Sentences.test(17, "2: year, day of the year: YYYY-DDD", () -> {
            needsText(2, 2020, 12, 31, "2020-366");
            needsText(2, 2018, 12, 31, "2018-365");
            needsText(2, 2021, 4, 10, "2021-100");
            needsText(2, 9999, 12, 31, "9999-365");
        });
        Sentences.test(17, "all digits told.", () -> {
            needsText(0, 1, 1, 1, "0001-01-01");
            needsText(1, 1, 1, 1, "0001-W01-1");
            needsText(2, 1, 1, 1, "0001-001");
            needsText(0, 99, 9, 9, "0099-09-09");
            needsText(1, 99, 3, 1, "0099-W09-7");
            needsText(2, 99, 4, 9, "0099-099");
            needsText(0, 476, 10, 10, "0476-10-10");
            needsText(1, 476, 3, 8, "0476-W10-7");
            needsText(2, 476, 1, 10, "0476-010");
            needsText(0, 1000, 10, 10, "1000-10-10");
            needsText(1, 2000, 6, 15, "2000-W24-4");
            needsText(2, 3000, 1, 1, "3000-001");
        });
    }

    private static void charAt() {
        Sentences.test(18, "A character of what was written last.", () -> {
            CivilDays x = Laden.object();
            needsWritten(x, "2020-W53-4");
            x.write(Laden.SOME_DATE, 2);
            needsWritten(x, "2020-366");
            x.write(Laden.FIRST_DATE, 0);
            needsWritten(x, "0001-01-01");
            x.move(Laden.FIRST_DATE, 1, 0);
            x.type('x');
            x.read(0);
            x.copy(2, 1);
            needsWritten(x, "0001-01-01");
            Check.refused("a refused write", Check.NO_STATE, () -> x.write(Laden.NO_DATE, 1));
            needsWritten(x, "0001-01-01");
        });
        Sentences.test(18, "IndexOutOfBounds: there is no such slot, rule, character.", () -> {
            for (int i : new int[] {-1, -2, 10, 11, 19, 20, 21, Due.LEAST, Due.GREATEST}) {
                Laden.refuses("charAt(" + i + ") of 10", Check.NO_INDEX, x -> x.charAt(i));
            }
            CivilDays shorter = Laden.object();
            shorter.write(0, 0);
            shorter.write(0, 2);
            Check.same("the last of 8", shorter.charAt(7), '6');
            Check.refused("behind the last of 8", Check.NO_INDEX, () -> shorter.charAt(8));
            Check.refused("where a longer text was", Check.NO_INDEX, () -> shorter.charAt(9));
            CivilDays none = new CivilDays();
            for (int i : new int[] {-1, 0, 1, Due.LEAST, Due.GREATEST}) {
                Check.refused("charAt(" + i + ") of nothing", Check.NO_INDEX, () -> none.charAt(i));
            }
            none.type('2');
            Check.refused("what is typed is not written", Check.NO_INDEX, () -> none.charAt(0));
        });
    }

    private static void needsWritten(CivilDays x, String want) {
        for (int i = 0; i < want.length(); i++) {
            Check.same("charAt(" + i + ") of " + want, x.charAt(i), want.charAt(i));
        }
        Check.refused("behind " + want, Check.NO_INDEX, () -> x.charAt(want.length()));
    }

    private static void type() {
        Sentences.test(19, "A character to be read comes behind the others: how many.", () -> {
            CivilDays x = new CivilDays();
            Check.same("the first", x.type('2'), 1);
            Check.same("the second", x.type('0'), 2);
            Check.same("the same again", x.type('0'), 3);
            Laden.type(x, "1-36");
            Check.same("the eighth", x.type('5'), 8);
            Check.same("they are read in that order", x.read(0), 2);
            Check.same("2001-365", x.told(0, 0), Due.number(2001, 12, 31));
            Check.same("the first again", x.type('2'), 1);
        });
    }

    private static void typeRefused() {
        Sentences.test(19, "IllegalArgument: it is not 32 .. 126.", () -> {
            for (int c = 32; c <= 126; c++) {
                Check.same("type(" + c + ")", new CivilDays().type(c), 1);
            }
            int[] none = {31, 30, 0, -1, -50, 127, 128, 255, 256 + '2', 65536 + '2', Due.LEAST, Due.GREATEST};
            for (int c : none) {
                Laden.refuses("type(" + c + ")", Check.NO_ARGUMENT, x -> x.type(c));
            }
        });
        Sentences.test(19, "UnsupportedOperation: there are 20.", () -> {
            CivilDays x = new CivilDays();
            for (int many = 1; many <= 20; many++) {
                Check.same("character " + many, x.type('0'), many);
            }
            Check.refused("a 21st", Check.NO_ROOM, () -> x.type('0'));
            Check.refused("a 21st again", Check.NO_ROOM, () -> x.type(' '));
            Check.same("they are still there", x.read(0), -5);
            for (int many = 1; many <= 20; many++) {
                Check.same("character " + many + " again", x.type('0'), many);
            }
            Check.refused("a 21st anew", Check.NO_ROOM, () -> x.type('0'));
            Laden.refuses(() -> Laden.object(12, TWENTY), "type behind 20", Check.NO_ROOM, o -> o.type('0'));
        });
    }

    /** Reads a text into a slot that has a date, which stays if it can't be read. */
    private static void needsRead(String s, int want) {
        CivilDays x = new CivilDays();
        x.days(4, 4321);
        Laden.type(x, s);
        Check.same("read '" + s + "'", x.read(4), want);
        if (want < 0) {
            Check.same("the slot behind '" + s + "'", x.told(4, 0), 4321);
        }
        Check.same("it went, '" + s + "'", x.type('0'), 1);
    }

    private static void needsDate(String s, int text, int year, int month, int day) {
        CivilDays x = new CivilDays();
        Laden.type(x, s);
        Check.same("read '" + s + "'", x.read(7), text);
        Check.same("date of '" + s + "'", x.told(7, 0), Due.number(year, month, day));
        Check.refused("the slot before", Check.NO_STATE, () -> x.told(6, 0));
    }

    private static void read() {
        Sentences.test(20, "What was typed is read as a date, and goes: which text it was", () -> {
            needsDate("2020-02-29", 0, 2020, 2, 29);
            needsDate("0001-01-01", 0, 1, 1, 1);
            needsDate("9999-12-31", 0, 9999, 12, 31);
            needsDate("2020-W53-7", 1, 2021, 1, 3);
            needsDate("2019-W01-1", 1, 2018, 12, 31);
            needsDate("0001-W01-1", 1, 1, 1, 1);
            needsDate("9999-W52-5", 1, 9999, 12, 31);
            needsDate("2020-366", 2, 2020, 12, 31);
            needsDate("2019-060", 2, 2019, 3, 1);
            needsDate("0001-001", 2, 1, 1, 1);
            needsDate("9999-365", 2, 9999, 12, 31);
            for (String s : WHOLE) {
                CivilDays x = new CivilDays();
                Laden.type(x, s);
                x.read(0);
                Check.same("it went, '" + s + "'", x.read(1), -1);
                Check.same("typing begins anew", x.type('2'), 1);
            }
        });
    }

    private static void readPlaces() {
        Sentences.test(20, "-1 less the place of the first character that can be in none of the "
                + "three as far as those before it go", () -> {
            for (String s : WHOLE) {
                for (int many = 0; many < s.length(); many++) {
                    String begun = s.substring(0, many);
                    needsRead(begun + "x", -1 - many);
                    needsRead(begun + " " + s.substring(many), -1 - many);
                }
                // Nothing can be behind a whole text.
                needsRead(s + "0", -1 - s.length());
                needsRead(s + "-", -1 - s.length());
                needsRead(s + "W", -1 - s.length());
                needsRead(s + " ", -1 - s.length());
                needsRead(s + "          ", -1 - s.length());
            }
            needsRead("-2020-02-2", -1);
            needsRead("W", -1);
            needsRead("20200229", -5);
            needsRead("2020W53-7", -5);
            needsRead("2020--", -6);
            needsRead("2020-w53-7", -6);
            needsRead("2020-0-29", -7);
            needsRead("2020-WW", -7);
            needsRead("2020-W-", -7);
            needsRead("2020-W5-7", -8);
            needsRead("2020-W5W", -8);
            needsRead("2020-02W29", -8);
            needsRead("2020-02--9", -9);
            needsRead("2020-02-W", -9);
            needsRead("2020-W5377", -9);
            needsRead("2020-W53W7", -9);
            needsRead("2020-W53--", -10);
            needsRead("2020-02-2-", -10);
            // The characters beside the digits.
            needsRead("202/-01-01", -4);
            needsRead("202:-01-01", -4);
            needsRead("2020-01-0/", -10);
            needsRead("2020-01-0:", -10);
            needsRead("99999999999999999999", -5);
            needsRead("2020-36699999999999", -9);
            // What stands before it need not be of a date that there is.
            needsRead("0000-99-9x", -10);
            needsRead("2019-02-299", -11);
            needsRead("2019-3666", -9);
            needsRead("2019-W53-11", -11);
        });
    }

    private static void readMissing() {
        Sentences.test(20, "or is missing", () -> {
            needsRead("", -1);
            for (String s : WHOLE) {
                for (int many = 0; many < s.length(); many++) {
                    needsRead(s.substring(0, many), -1 - many);
                }
            }
            needsRead("0000-99-9", -10);
            needsRead("2019-W99-", -10);
            needsRead("0000-99", -8);
            CivilDays x = new CivilDays();
            Check.same("nothing was ever typed", x.read(0), -1);
            Check.same("nor since", x.read(0), -1);
        });
    }

    private static void readNoSuchDate() {
        Sentences.test(20, "-30, if there is no such date.", () -> {
            String[] none = {
                "0000-01-01", "0000-12-31", "2019-02-29", "1900-02-29", "2020-02-30", "2020-04-31",
                "2020-00-01", "2020-13-01", "2020-99-01", "2020-01-00", "2020-01-32", "2020-99-99",
                "0000-W01-1", "0000-W52-7", "2019-W53-1", "2020-W54-1", "2020-W00-1", "2020-W99-1",
                "2020-W01-0", "2020-W01-8", "2020-W01-9", "9999-W52-6", "9999-W52-7", "9999-W53-1",
                "0000-001", "0000-366", "2019-366", "1900-366", "2020-367", "2020-000", "2020-999",
                "9999-366",
            };
            for (String s : none) {
                needsRead(s, -30);
            }
        });
    }

    private static void readSlotStays() {
        Sentences.test(20, "The slot stays then.", () -> {
            for (String s : new String[] {"2019-366", "2019-02-29", "2019-W53-1", "2019-", "x", ""}) {
                CivilDays x = new CivilDays();
                x.days(3, 777);
                Laden.type(x, s);
                Check.same("read '" + s + "' is below 0", x.read(3) < 0 ? 1 : 0, 1);
                Check.same("a slot with a date", x.told(3, 0), 777);
                Laden.type(x, s);
                x.read(8);
                Check.refused("a slot without one", Check.NO_STATE, () -> x.told(8, 0));
            }
        });
    }
}
