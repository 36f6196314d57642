/** What 'Terms' says of the exceptions, for each promise whose calls throw them. */
final class RefusalSentences {
    private static final String NO_SUCH = "IndexOutOfBounds: there is no such slot, rule, character.";
    private static final String NO_DATE = "IllegalState: the slot has no date.";
    private static final String FIRST_ONE = "Of several that a call names, the first one.";
    private static final String NOTHING = "A call that throws changes nothing.";

    private static final int NONE = Laden.NO_DATE;
    private static final int WRONG = 10;

    interface OnSlot {
        int answer(CivilDays x, int slot);
    }

    private RefusalSentences() {
    }

    static void run() {
        noSuchSlot();
        noDate();
        firstOneOfDates();
        firstOneOfTheOthers();
        changesNothing();
    }

    /** Slots 0 and 9 are there, those beside them and far from them are not. */
    private static void slots(int promise, String call, OnSlot on) {
        Sentences.test(promise, NO_SUCH, () -> {
            for (int slot : new int[] {-1, -2, -10, 10, 11, 100, Due.LEAST, Due.LEAST + 1, Due.GREATEST}) {
                Laden.refuses(call + ", slot " + slot, Check.NO_INDEX, x -> on.answer(x, slot));
            }
            for (int slot = 0; slot <= 9; slot++) {
                CivilDays x = new CivilDays();
                for (int s = 0; s <= 9; s++) {
                    x.days(s, 730000 + s);
                }
                int there = slot;
                String answer = Check.outcome(() -> on.answer(x, there));
                Check.same(call + ", slot " + slot + " answers", answer.startsWith("throws") ? 0 : 1, 1);
            }
        });
    }

    private static void noSuchSlot() {
        slots(2, "civil", (x, slot) -> x.civil(slot, 2020, 2, 29));
        slots(3, "days", (x, slot) -> x.days(slot, 77));
        slots(4, "week", (x, slot) -> x.week(slot, 2020, 53, 7));
        slots(5, "easter", (x, slot) -> x.easter(slot, 2020));
        slots(6, "nth", (x, slot) -> x.nth(slot, 2020, 5, 1, -1));
        slots(7, "move", (x, slot) -> x.move(slot, 1, 1));
        slots(8, "told", (x, slot) -> x.told(slot, 10));
        slots(9, "between, the first", (x, slot) -> x.between(slot, 3, 1));
        slots(9, "between, the other", (x, slot) -> x.between(3, slot, 1));
        slots(10, "copy, from", (x, slot) -> x.copy(slot, 3));
        slots(10, "copy, to", (x, slot) -> x.copy(3, slot));
        slots(14, "isHoliday", (x, slot) -> x.isHoliday(slot));
        slots(15, "work, the first", (x, slot) -> x.work(slot, 3));
        slots(15, "work, the other", (x, slot) -> x.work(3, slot));
        slots(16, "moveWork", (x, slot) -> x.moveWork(slot, 1));
        slots(17, "write", (x, slot) -> x.write(slot, 0));
        slots(20, "read", (x, slot) -> x.read(slot));
    }

    private static void empty(int promise, String call, OnSlot on) {
        Sentences.test(promise, NO_DATE, () -> {
            Laden.refuses(call, Check.NO_STATE, x -> on.answer(x, NONE));
            CivilDays x = new CivilDays();
            for (int slot = 0; slot <= 9; slot++) {
                int s = slot;
                Check.refused(call + " of a new object, slot " + s, Check.NO_STATE, () -> on.answer(x, s));
            }
            x.days(NONE, 0);
            String answer = Check.outcome(() -> on.answer(x, NONE));
            Check.same(call + " of the first date answers", answer.startsWith("throws") ? 0 : 1, 1);
        });
    }

    private static void noDate() {
        empty(7, "move", (x, slot) -> x.move(slot, 1, 0));
        empty(8, "told", (x, slot) -> x.told(slot, 0));
        empty(9, "between, both", (x, slot) -> x.between(slot, slot, 1));
        empty(10, "copy", (x, slot) -> x.copy(slot, slot));
        empty(14, "isHoliday", (x, slot) -> x.isHoliday(slot));
        empty(15, "work, both", (x, slot) -> x.work(slot, slot));
        empty(16, "moveWork", (x, slot) -> x.moveWork(slot, 1));
        empty(17, "write", (x, slot) -> x.write(slot, 0));
        Sentences.test(9, NO_DATE, () -> {
            for (int unit = 0; unit <= 2; unit++) {
                int u = unit;
                Laden.refuses("between, the first", Check.NO_STATE, x -> x.between(NONE, 0, u));
                Laden.refuses("between, the other", Check.NO_STATE, x -> x.between(0, NONE, u));
            }
        });
        Sentences.test(10, NO_DATE, () -> {
            Laden.refuses("copy onto a date", Check.NO_STATE, x -> x.copy(NONE, 0));
            Check.same("copy into the empty slot", Laden.object().copy(1, NONE), 0);
        });
        Sentences.test(15, NO_DATE, () -> {
            Laden.refuses("work, the first", Check.NO_STATE, x -> x.work(NONE, 0));
            Laden.refuses("work, the other", Check.NO_STATE, x -> x.work(0, NONE));
        });
        Sentences.test(16, NO_DATE, () -> {
            Laden.refuses("moveWork by 0", Check.NO_STATE, x -> x.moveWork(NONE, 0));
            Laden.refuses("moveWork back", Check.NO_STATE, x -> x.moveWork(NONE, -1));
        });
    }

    private static void firstOneOfDates() {
        Sentences.test(2, FIRST_ONE, () -> {
            Laden.refuses("civil", Check.NO_INDEX, x -> x.civil(WRONG, 0, 0, 0));
            Laden.refuses("civil", Check.NO_INDEX, x -> x.civil(-1, 2019, 2, 29));
        });
        Sentences.test(3, FIRST_ONE, () ->
                Laden.refuses("days", Check.NO_INDEX, x -> x.days(WRONG, -1)));
        Sentences.test(4, FIRST_ONE, () -> {
            Laden.refuses("week", Check.NO_INDEX, x -> x.week(WRONG, 2021, 53, 1));
            Laden.refuses("week beyond", Check.NO_INDEX, x -> x.week(-1, 9999, 52, 6));
        });
        Sentences.test(5, FIRST_ONE, () ->
                Laden.refuses("easter", Check.NO_INDEX, x -> x.easter(WRONG, 1582)));
        Sentences.test(6, FIRST_ONE, () ->
                Laden.refuses("nth", Check.NO_INDEX, x -> x.nth(WRONG, 2024, 5, 1, 0)));
        Sentences.test(7, FIRST_ONE, () -> {
            Laden.refuses("slot, unit", Check.NO_INDEX, x -> x.move(WRONG, 1, 3));
            Laden.refuses("unit, no date", Check.NO_ARGUMENT, x -> x.move(NONE, 1, 3));
            Laden.refuses("unit, beyond", Check.NO_ARGUMENT, x -> x.move(0, Due.GREATEST, 3));
            Laden.refuses("unit, no date, beyond", Check.NO_ARGUMENT, x -> x.move(NONE, Due.LEAST, -1));
            Laden.refuses("no date, beyond", Check.NO_STATE, x -> x.move(NONE, Due.GREATEST, 0));
            Laden.refuses("no date, beyond", Check.NO_STATE, x -> x.move(NONE, Due.LEAST, 2));
        });
        Sentences.test(8, FIRST_ONE, () -> {
            Laden.refuses("slot, what", Check.NO_INDEX, x -> x.told(WRONG, 11));
            Laden.refuses("what, no date", Check.NO_ARGUMENT, x -> x.told(NONE, 11));
            Laden.refuses("what, no date", Check.NO_ARGUMENT, x -> x.told(NONE, -1));
        });
        Sentences.test(9, FIRST_ONE, () -> {
            Laden.refuses("first slot, unit", Check.NO_INDEX, x -> x.between(WRONG, 0, 3));
            Laden.refuses("other slot, unit", Check.NO_INDEX, x -> x.between(0, WRONG, 3));
            Laden.refuses("other slot, no date", Check.NO_INDEX, x -> x.between(NONE, WRONG, 0));
            Laden.refuses("first slot, no date", Check.NO_INDEX, x -> x.between(WRONG, NONE, 0));
            Laden.refuses("unit, first has no date", Check.NO_ARGUMENT, x -> x.between(NONE, 0, 3));
            Laden.refuses("unit, other has no date", Check.NO_ARGUMENT, x -> x.between(0, NONE, -1));
        });
        Sentences.test(10, FIRST_ONE, () -> {
            Laden.refuses("to no slot, no date", Check.NO_INDEX, x -> x.copy(NONE, WRONG));
            Laden.refuses("from no slot", Check.NO_INDEX, x -> x.copy(WRONG, NONE));
        });
    }

    private static void firstOneOfTheOthers() {
        Sentences.test(11, FIRST_ONE, () -> {
            Laden.refuses("kind, full", Check.NO_ARGUMENT, x -> x.holiday(4, 1, 1, 1));
            Laden.refuses("day, full", Check.NO_ARGUMENT, x -> x.holiday(0, 2, 30, 0));
            Laden.refuses("days, full", Check.NO_ARGUMENT, x -> x.holiday(1, 101, 0, 0));
            Laden.refuses("which, full", Check.NO_ARGUMENT, x -> x.holiday(2, 1, 1, 0));
            Laden.refuses("month, full", Check.NO_ARGUMENT, x -> x.holiday(3, 13, 1, 0));
        });
        Sentences.test(14, FIRST_ONE, () ->
                Check.refused("slot, no date", Check.NO_INDEX, () -> new CivilDays().isHoliday(WRONG)));
        Sentences.test(15, FIRST_ONE, () -> {
            Laden.refuses("other slot, no date", Check.NO_INDEX, x -> x.work(NONE, WRONG));
            Laden.refuses("first slot, no date", Check.NO_INDEX, x -> x.work(WRONG, NONE));
            Laden.refuses("no date, not near", Check.NO_STATE, x -> x.work(NONE, Laden.LAST_DATE));
            Laden.refuses("no date, not near", Check.NO_STATE, x -> x.work(Laden.LAST_DATE, NONE));
        });
        Sentences.test(16, FIRST_ONE, () -> {
            Laden.refuses("slot, many", Check.NO_INDEX, x -> x.moveWork(WRONG, 1001));
            Laden.refuses("no date, many", Check.NO_STATE, x -> x.moveWork(NONE, 1001));
            Laden.refuses("no date, many", Check.NO_STATE, x -> x.moveWork(NONE, Due.LEAST));
            Laden.refuses("many, beyond", Check.NO_ARGUMENT, x -> x.moveWork(Laden.LAST_DATE, 1001));
            Laden.refuses("many, beyond", Check.NO_ARGUMENT, x -> x.moveWork(Laden.FIRST_DATE, -1001));
        });
        Sentences.test(17, FIRST_ONE, () -> {
            Laden.refuses("slot, text", Check.NO_INDEX, x -> x.write(WRONG, 3));
            Laden.refuses("text, no date", Check.NO_ARGUMENT, x -> x.write(NONE, 3));
            Laden.refuses("text, no date", Check.NO_ARGUMENT, x -> x.write(NONE, -1));
        });
        Sentences.test(19, FIRST_ONE, () -> {
            Laden.Maker full = () -> Laden.object(12, "2019-060------------");
            Laden.refuses(full, "character, full", Check.NO_ARGUMENT, x -> x.type(31));
            Laden.refuses(full, "character, full", Check.NO_ARGUMENT, x -> x.type(127));
        });
    }

    private static void changesNothing() {
        kept(2, "civil", x -> x.civil(0, 2019, 2, 29));
        kept(3, "days", x -> x.days(0, Due.LAST + 1));
        kept(4, "week", x -> x.week(0, 9999, 52, 6));
        kept(5, "easter", x -> x.easter(0, 1582));
        kept(6, "nth", x -> x.nth(0, 2023, 2, 1, 5));
        kept(7, "move", x -> x.move(Laden.LAST_DATE, 1, 0));
        kept(8, "told", x -> x.told(0, 11));
        kept(9, "between", x -> x.between(0, NONE, 0));
        kept(10, "copy", x -> x.copy(NONE, 0));
        kept(11, "holiday", x -> x.holiday(0, 1, 1, 0));
        kept(12, "noHoliday", x -> x.noHoliday(12));
        kept(13, "weekend", x -> x.weekend(127));
        kept(14, "isHoliday", x -> x.isHoliday(NONE));
        kept(15, "work", x -> x.work(Laden.FIRST_DATE, Laden.LAST_DATE));
        kept(16, "moveWork", x -> x.moveWork(Laden.LAST_DATE, 1));
        kept(17, "write", x -> x.write(NONE, 0));
        kept(18, "charAt", x -> x.charAt(10));
        kept(19, "type", x -> x.type(127));
        kept(20, "read", x -> x.read(10));
    }

    /** The call throws, and all that is held is as before; so it is if it comes again. */
    private static void kept(int promise, String call, Laden.On on) {
        Sentences.test(promise, NOTHING, () -> {
            CivilDays x = Laden.object();
            for (int times = 1; times <= 3; times++) {
                String answer = Check.outcome(() -> on.answer(x));
                Check.same(call + " throws", answer.startsWith("throws") ? 1 : 0, 1);
            }
            Laden.needsAll(call, x);
        });
    }
}
