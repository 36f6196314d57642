/** Promises 1 and 21, and what the document says of an object as a whole. */
final class ObjectSentences {
    private ObjectSentences() {
    }

    static void run() {
        newObject();
        newObjectsTerms();
        lastCalls();
        cleared();
        asking();
    }

    private static void needsNoDates(CivilDays x) {
        for (int slot = 0; slot <= 9; slot++) {
            int s = slot;
            Check.refused("told(" + s + ", 0)", Check.NO_STATE, () -> x.told(s, 0));
            Check.refused("isHoliday(" + s + ")", Check.NO_STATE, () -> x.isHoliday(s));
        }
    }

    private static void needsNoRules(CivilDays x) {
        Check.refused("noHoliday(0)", Check.NO_INDEX, () -> x.noHoliday(0));
        for (int day = 1; day <= 12; day++) {
            x.civil(0, 2021, 1, day);
            Check.same("isHoliday of January " + day, x.isHoliday(0), CivilDays.NONE);
        }
        Check.same("a first rule", x.holiday(0, 1, 1, 0), 1);
    }

    /** Asked twice, by what is working and by what it was. */
    private static void needsSaturdayAndSunday(CivilDays x) {
        for (int weekday = 1; weekday <= 7; weekday++) {
            x.week(0, 2024, 30, weekday);
            x.copy(0, 1);
            x.move(1, 1, 0);
            Check.same("working days on weekday " + weekday, x.work(0, 1), weekday <= 5 ? 1 : 0);
        }
        Check.same("weekend(0)", x.weekend(0), 96);
    }

    private static void newObject() {
        Sentences.test(1, "No slot has a date", () -> {
            needsNoDates(new CivilDays());
        });
        Sentences.test(1, "there are no rules for holidays", () -> {
            needsNoRules(new CivilDays());
        });
        Sentences.test(1, "and the weekend is Saturday and Sunday.", () -> {
            needsSaturdayAndSunday(new CivilDays());
        });
    }

    private static void newObjectsTerms() {
        Sentences.test(1, "SLOTS 0 .. 9 hold a date each, or none (at first).", () -> {
            CivilDays x = new CivilDays();
            needsNoDates(x);
            for (int slot = 0; slot <= 9; slot++) {
                x.days(slot, 1000 * slot);
            }
            for (int slot = 0; slot <= 9; slot++) {
                Check.same("slot " + slot, x.told(slot, 0), 1000 * slot);
            }
            Check.refused("slot -1", Check.NO_INDEX, () -> x.days(-1, 0));
            Check.refused("slot 10", Check.NO_INDEX, () -> x.days(10, 0));
            CivilDays other = new CivilDays();
            Check.refused("another object's slot", Check.NO_STATE, () -> other.told(0, 0));
            Check.refused("another object's rule", Check.NO_INDEX, () -> other.noHoliday(0));
        });
    }

    private static void lastCalls() {
        Sentences.test(1, "An object is used for at most 512 calls after it has been made", () -> {
            CivilDays x = new CivilDays();
            int made = 0;
            x.days(0, 700000);
            x.weekend(126);
            made += 2;
            for (int day = 1; day <= 12; day++) {
                x.holiday(3, 6, day, 0);
                made++;
            }
            int there = x.moveWork(0, 1000);
            int back = x.moveWork(0, -1000);
            made += 2;
            while (made < 512) {
                Check.same("call " + (made + 1), x.moveWork(0, 1000), there);
                Check.same("call " + (made + 2), x.moveWork(0, -1000), back);
                made += 2;
            }
            CivilDays y = new CivilDays();
            for (int call = 1; call <= 512; call += 2) {
                Check.same("call " + call, y.holiday(call % 4, 1, 1, 1), 1);
                Check.same("call " + (call + 1), y.noHoliday(0), 0);
            }
        });
    }

    private static CivilDays clearedObject() {
        CivilDays x = Laden.object();
        x.clear();
        return x;
    }

    private static void cleared() {
        Sentences.test(21, "No slot has a date", () -> {
            CivilDays x = Laden.object();
            x.days(Laden.NO_DATE, 5);
            x.clear();
            needsNoDates(x);
        });
        Sentences.test(21, "no rules", () -> {
            needsNoRules(clearedObject());
            CivilDays x = clearedObject();
            for (int many = 1; many <= 12; many++) {
                Check.same("rule " + many + " again", x.holiday(0, 6, many, 0), many);
            }
        });
        Sentences.test(21, "nothing written or typed", () -> {
            CivilDays x = clearedObject();
            for (int i = 0; i <= 10; i++) {
                int at = i;
                Check.refused("charAt(" + i + ")", Check.NO_INDEX, () -> x.charAt(at));
            }
            Check.same("type is the first", x.type('2'), 1);
            CivilDays y = clearedObject();
            Check.same("nothing is read", y.read(0), -1);
            Check.refused("the slot stays", Check.NO_STATE, () -> y.told(0, 0));
        });
        Sentences.test(21, "the weekend is 96.", () -> {
            Check.same("weekend(0)", clearedObject().weekend(0), 96);
            needsSaturdayAndSunday(clearedObject());
            CivilDays x = clearedObject();
            x.weekend(64);
            x.clear();
            x.clear();
            Check.tell("cleared twice", Laden.drained(x), Laden.drained(new CivilDays()));
            CivilDays y = new CivilDays();
            y.clear();
            Check.tell("cleared when new", Laden.drained(y), Laden.drained(new CivilDays()));
        });
    }

    /** Calls that only ask leave all as it is. */
    private static void asking() {
        String words = "Nothing is promised beyond the answers and state changes described above";
        Sentences.test(3, words, () -> leavesTheRest("days", x -> x.days(5, 730005)));
        Sentences.test(8, words, () -> {
            for (int what = 0; what <= 10; what++) {
                int w = what;
                leavesTheRest("told(0, " + w + ")", x -> x.told(0, w));
            }
        });
        Sentences.test(9, words, () -> {
            for (int unit = 0; unit <= 2; unit++) {
                int u = unit;
                leavesTheRest("between(1, 2, " + u + ")", x -> x.between(1, 2, u));
                leavesTheRest("between(2, 1, " + u + ")", x -> x.between(2, 1, u));
            }
        });
        Sentences.test(10, words, () -> leavesTheRest("copy(5, 5)", x -> x.copy(5, 5)));
        Sentences.test(13, words, () -> leavesTheRest("weekend(3)", x -> x.weekend(3)));
        Sentences.test(14, words, () -> leavesTheRest("isHoliday(0)", x -> x.isHoliday(0)));
        Sentences.test(15, words, () -> {
            leavesTheRest("work(3, 8)", x -> x.work(3, 8));
            leavesTheRest("work(8, 3)", x -> x.work(8, 3));
        });
        Sentences.test(16, words, () -> leavesTheRest("moveWork(5, 0)", x -> x.moveWork(5, 0)));
        Sentences.test(17, words, () -> leavesTheRest("write(0, 1)", x -> x.write(0, 1)));
        Sentences.test(18, words, () -> leavesTheRest("charAt(5)", x -> x.charAt(5)));
    }

    private static void leavesTheRest(String call, Laden.On on) {
        CivilDays x = Laden.object();
        on.answer(x);
        Laden.needsAll(call, x);
    }
}
