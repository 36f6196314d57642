/** Objects with something of everything, so that a refused call that changes any of it is found. */
final class Laden {
    interface Maker {
        CivilDays make();
    }

    interface On {
        int answer(CivilDays x);
    }

    /** The slots of a laden object: an ordinary date, the first, the last, and none. */
    static final int SOME_DATE = 0;
    static final int FIRST_DATE = 1;
    static final int LAST_DATE = 2;
    static final int NO_DATE = 9;

    static final int MOST_RULES = 12;

    private Laden() {
    }

    static CivilDays object() {
        return object(MOST_RULES, "2019-060");
    }

    static CivilDays object(int rules, String typed) {
        CivilDays x = new CivilDays();
        for (int slot = 3; slot < NO_DATE; slot++) {
            x.days(slot, 730000 + slot);
        }
        x.civil(SOME_DATE, 2020, 12, 31);
        x.days(FIRST_DATE, 0);
        x.days(LAST_DATE, Due.LAST);
        for (int day = 1; day <= rules; day++) {
            x.holiday(0, 1, day, 0);
        }
        x.weekend(3);
        x.write(SOME_DATE, 1);
        type(x, typed);
        return x;
    }

    static void type(CivilDays x, String s) {
        for (int i = 0; i < s.length(); i++) {
            x.type(s.charAt(i));
        }
    }

    /** The call throws just that, and all that the laden object holds is still there. */
    static void refuses(String call, Class<? extends RuntimeException> want, On on) {
        CivilDays x = object();
        Check.refused(call, want, () -> on.answer(x));
        needsAll(call, x);
    }

    /** The call throws just that, and an object behind it is as one that never had it. */
    static void refuses(Maker maker, String call, Class<? extends RuntimeException> want, On on) {
        CivilDays x = maker.make();
        Check.refused(call, want, () -> on.answer(x));
        Check.tell("all that is held behind " + call, drained(x), drained(maker.make()));
    }

    /** What a laden object holds is told from its numbers, so that calls that ask can't spoil it. */
    static void needsAll(String call, CivilDays x) {
        StringBuilder all = new StringBuilder();
        all.append(Due.number(2020, 12, 31)).append(" 0 ").append(Due.LAST).append(' ');
        for (int slot = 3; slot < NO_DATE; slot++) {
            all.append(730000 + slot).append(' ');
        }
        all.append(Check.thrown(Check.NO_STATE)).append(" 3 ");
        for (char c : "2020-W53-4".toCharArray()) {
            all.append((int) c).append(' ');
        }
        all.append(Check.thrown(Check.NO_INDEX)).append(" 2 ").append(Due.number(2019, 3, 1)).append(' ');
        for (int k = 0; k < MOST_RULES; k++) {
            all.append(k).append(' ');
        }
        all.append("-1 ");
        for (int left = MOST_RULES - 1; left >= 0; left--) {
            all.append(left).append(' ');
        }
        all.append(Check.thrown(Check.NO_INDEX)).append(' ');
        Check.tell("all that is held behind " + call, drained(x), all.toString());
    }

    /** All that can be told of an object; it has nothing of it left then. */
    static String drained(CivilDays x) {
        StringBuilder all = new StringBuilder();
        for (int slot = 0; slot <= 9; slot++) {
            int s = slot;
            add(all, () -> x.told(s, 0));
        }
        add(all, () -> x.weekend(0));
        for (int i = 0; i <= 10; i++) {
            int at = i;
            add(all, () -> x.charAt(at));
        }
        add(all, () -> x.read(NO_DATE));
        add(all, () -> x.told(NO_DATE, 0));
        addRules(all, x);
        return all.toString();
    }

    private static void addRules(StringBuilder all, CivilDays x) {
        for (int day = 1; day <= MOST_RULES + 1; day++) {
            x.civil(0, 2021, 1, day);
            add(all, () -> x.isHoliday(0));
        }
        for (int many = 0; many <= MOST_RULES; many++) {
            add(all, () -> x.noHoliday(0));
        }
    }

    private static void add(StringBuilder all, Check.Call call) {
        all.append(Check.outcome(call)).append(' ');
    }
}
