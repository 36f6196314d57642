import java.util.Random;

/** Runs of up to 512 calls on a new object, all by fixed seeds, against the model. */
public final class RandomRunsTest {
    private static final int RUNS = 600;
    private static final int MOST_CALLS = 512;
    /** A text and its reading are the most calls that come at once. */
    private static final int MOST_AT_ONCE = 11;
    private static final int[] EDGES = {
        Integer.MIN_VALUE, Integer.MIN_VALUE + 1, -1073741824, -1001, -1000, -101, -100, -6, -5, -2,
        -1, 0, 1, 2, 3, 4, 5, 6, 7, 8, 9, 10, 11, 12, 13, 28, 29, 30, 31, 32, 52, 53, 54, 96, 100,
        101, 126, 127, 1000, 1001, 1582, 1583, 4000, 4001, 9999, 10000, 3652058, 3652059,
        357913941, 1073741824, Integer.MAX_VALUE - 1, Integer.MAX_VALUE,
    };
    private static final String[] STARTS = {
        "2020-02-29", "2019-W53-1", "2020-366", "9999-W52-6", "0001-01-01", "0000-001", "1900-02-29",
    };

    private final Random random;
    private final CivilDays x = new CivilDays();
    private final Model model = new Model();
    private final int aboutYear;
    private int calls = 0;

    private RandomRunsTest(int seed) {
        random = new Random(seed);
        int[] years = {1, 2, 1582, 1583, 1584, 1899, 1900, 2000, 2020, 2024, 9998, 9999};
        aboutYear = seed % 3 == 0 ? 1 + random.nextInt(9999) : years[random.nextInt(years.length)];
    }

    public static void main(String[] args) {
        for (int seed = 1; seed <= RUNS; seed++) {
            RandomRunsTest run = new RandomRunsTest(seed);
            while (run.calls + MOST_AT_ONCE <= MOST_CALLS) {
                run.oneCall(seed + "/" + run.calls);
            }
        }
        Check.finish();
    }

    private boolean rarely() {
        return random.nextInt(12) == 0;
    }

    private int edge() {
        return EDGES[random.nextInt(EDGES.length)];
    }

    /** Mostly within the bounds, now and then any number. */
    private int within(int least, int greatest) {
        return rarely() ? edge() : least + random.nextInt(greatest - least + 1);
    }

    private int slot() {
        return random.nextInt(30) == 0 ? edge() : random.nextInt(3);
    }

    private int year() {
        return rarely() ? edge() : aboutYear - 1 + random.nextInt(3);
    }

    private void same(String what, Check.Call own, Check.Call models) {
        calls++;
        Check.tell(what, Check.outcome(own), Check.outcome(models));
    }

    private void oneCall(String at) {
        int kind = random.nextInt(100);
        if (kind < 30) {
            callThatSets(at, kind);
        } else if (kind < 60) {
            callThatAsks(at, kind);
        } else if (kind < 80) {
            callOfHolidays(at, kind);
        } else {
            callOfTexts(at, kind);
        }
    }

    private void callThatSets(String at, int kind) {
        int s = slot();
        int y = year();
        int m = within(1, 12);
        int w = within(1, 7);
        if (kind < 10) {
            int d = within(26, 31);
            same(at + " civil", () -> x.civil(s, y, m, d), () -> model.civil(s, y, m, d));
        } else if (kind < 13) {
            int n = rarely() ? edge() : random.nextInt(3652059);
            same(at + " days", () -> x.days(s, n), () -> model.days(s, n));
        } else if (kind < 19) {
            int n = random.nextBoolean() ? within(1, 53) : within(51, 54);
            same(at + " week", () -> x.week(s, y, n, w), () -> model.week(s, y, n, w));
        } else if (kind < 22) {
            same(at + " easter", () -> x.easter(s, y), () -> model.easter(s, y));
        } else if (kind < 27) {
            int n = within(-5, 5);
            same(at + " nth", () -> x.nth(s, y, m, w, n), () -> model.nth(s, y, m, w, n));
        } else {
            int to = slot();
            same(at + " copy", () -> x.copy(s, to), () -> model.copy(s, to));
        }
    }

    private void callThatAsks(String at, int kind) {
        int s = slot();
        int other = slot();
        int unit = random.nextInt(25) == 0 ? edge() : random.nextInt(3);
        if (kind < 40) {
            int many = within(-40, 40);
            same(at + " move", () -> x.move(s, many, unit), () -> model.move(s, many, unit));
        } else if (kind < 49) {
            int what = within(0, 10);
            same(at + " told", () -> x.told(s, what), () -> model.told(s, what));
        } else if (kind < 58) {
            same(at + " between", () -> x.between(s, other, unit), () -> model.between(s, other, unit));
        } else {
            same(at + " isHoliday", () -> x.isHoliday(s), () -> model.isHoliday(s));
        }
    }

    private void callOfHolidays(String at, int kind) {
        int s = slot();
        int other = slot();
        if (kind < 66) {
            int k = within(0, 3);
            int a = k == 1 ? within(-100, 100) : within(1, 12);
            int b = k == 2 ? within(1, 7) : random.nextBoolean() ? within(1, 3) : within(28, 31);
            int c = within(-1, 4);
            same(at + " holiday", () -> x.holiday(k, a, b, c), () -> model.holiday(k, a, b, c));
        } else if (kind < 68) {
            int k = within(0, 11);
            same(at + " noHoliday", () -> x.noHoliday(k), () -> model.noHoliday(k));
        } else if (kind < 70) {
            int set = rarely() ? edge() : random.nextInt(128);
            same(at + " weekend", () -> x.weekend(set), () -> model.weekend(set));
        } else if (kind < 74) {
            same(at + " isHoliday", () -> x.isHoliday(s), () -> model.isHoliday(s));
        } else if (kind < 77) {
            same(at + " work", () -> x.work(s, other), () -> model.work(s, other));
        } else {
            int many = random.nextInt(8) == 0 ? edge() : within(-30, 30);
            same(at + " moveWork", () -> x.moveWork(s, many), () -> model.moveWork(s, many));
        }
    }

    private void callOfTexts(String at, int kind) {
        int s = slot();
        if (kind < 84) {
            int text = random.nextInt(20) == 0 ? edge() : random.nextInt(3);
            same(at + " write", () -> x.write(s, text), () -> model.write(s, text));
        } else if (kind < 89) {
            int i = within(0, 10);
            same(at + " charAt", () -> x.charAt(i), () -> model.charAt(i));
        } else if (kind < 97) {
            typeSomething(at);
        } else if (kind < 99) {
            same(at + " read", () -> x.read(s), () -> model.read(s));
        } else if (random.nextInt(8) == 0) {
            calls++;
            x.clear();
            model.clear();
        }
    }

    private void typeSomething(String at) {
        String start = STARTS[random.nextInt(STARTS.length)];
        int many = random.nextInt(3) == 0 ? random.nextInt(start.length() + 1) : start.length();
        for (int i = 0; i < many; i++) {
            int c = random.nextInt(60) == 0 ? edge() : spoiled(start.charAt(i));
            same(at + " type", () -> x.type(c), () -> model.type(c));
        }
        int s = slot();
        if (random.nextInt(4) != 0) {
            same(at + " read", () -> x.read(s), () -> model.read(s));
        }
    }

    private int spoiled(char c) {
        if (random.nextInt(20) != 0) {
            return c;
        }
        return random.nextBoolean() ? '0' + random.nextInt(10) : "-W x/:w".charAt(random.nextInt(7));
    }
}
