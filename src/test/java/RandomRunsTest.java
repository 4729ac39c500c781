import java.util.Random;

/** Runs of 512 calls (the last one asks what is broken), from fixed seeds: each answer and each exception is the one that PlainOffice gives. */
public final class RandomRunsTest {
    private static final int RUNS = 3000;
    private static final int CALLS = 511;
    private static final int KINDS = 25;
    private static final Check check = new Check();

    interface Call {
        long answer();
    }

    private final Random random;
    private final RecordsOffice x = new RecordsOffice();
    private final PlainOffice y = new PlainOffice();
    /** How far days go on from call to call; how seldom a number is a wrong one. */
    private final int stride;
    private final int wrongOnceIn;
    private int today;
    private String told = "";

    private RandomRunsTest(long seed) {
        random = new Random(seed);
        stride = new int[] {0, 2, 40, 400, 3000}[random.nextInt(5)];
        wrongOnceIn = random.nextBoolean() ? 8 : 60;
    }

    public static void main(String[] args) {
        int[] answered = new int[KINDS];
        long fullBooks = 0;
        for (int run = 0; run < RUNS; run++) {
            RandomRunsTest test = new RandomRunsTest(run);
            test.run(run, answered);
            fullBooks += test.y.acts.size() == 400 ? 1 : 0;
        }
        System.out.println(fullBooks + " full books, calls answered by kind: " + java.util.Arrays.toString(answered));
        // Runs that never get anywhere would prove nothing.
        for (int kind = 0; kind < KINDS; kind++) {
            if (answered[kind] < 100) {
                check.report("kind " + kind + " of call was answered only " + answered[kind] + " times");
            }
        }
        if (fullBooks == 0) {
            check.report("no run filled the book");
        }
        check.end();
    }

    private void run(int run, int[] answered) {
        int style = random.nextInt(3);
        for (int i = 0; i < CALLS; i++) {
            int kind = style > 0 && i > 20 ? writingKind() : random.nextInt(KINDS);
            // With holds that come and go at every other call the book gets full.
            boolean comeAndGo = style == 2 && i > 60 && random.nextInt(8) != 0;
            Call[] both = comeAndGo ? holdOrLift() : pair(kind);
            String got = outcome(both[0]);
            String want = outcome(both[1]);
            String call = "run " + run + " call " + i + " " + told + " ";
            check.same(call + want, call + got);
            answered[kind] += comeAndGo || want.startsWith("throws") ? 0 : 1;
            if (!want.equals(got)) {
                return;
            }
            today = y.today;
        }
        check.is(y.broken(), x.broken());
    }

    private int writingKind() {
        return new int[] {0, 1, 3, 4, 5, 6, 7, 8, 14, 16, 17, 18, 6, 7, 8, 16, 18, 14}[random.nextInt(18)];
    }

    private Call[] holdOrLift() {
        int hold = random.nextInt(8);
        if (y.holds.containsKey(hold)) {
            tell("lift", hold);
            return calls(() -> { x.lift(hold); return 0; }, () -> { y.lift(hold); return 0; });
        }
        int key = random.nextInt(100);
        tell("hold", hold, -1, -1, key, 0, 120000);
        return calls(() -> { x.hold(hold, -1, -1, key, 0, 120000); return 0; }, () -> { y.hold(hold, -1, -1, key, 0, 120000); return 0; });
    }

    private static String outcome(Call call) {
        try {
            return "" + call.answer();
        } catch (RuntimeException e) {
            return "throws " + e.getClass().getName();
        }
    }

    private int pick(int low, int high) {
        if (random.nextInt(wrongOnceIn) == 0) {
            int[] edges = {low - 1, high + 1, low, high, Integer.MIN_VALUE, Integer.MAX_VALUE, low - 64, high + 64};
            return edges[random.nextInt(edges.length)];
        }
        return low + random.nextInt(high - low + 1);
    }

    private int few(int low, int high) {
        return random.nextBoolean() ? pick(low, Math.min(high, low + 3)) : pick(low, high);
    }

    private int day() {
        if (random.nextInt(wrongOnceIn) == 0) {
            return random.nextBoolean() ? pick(0, 120000) : today - 1;
        }
        return Math.min(120000, today + (stride == 0 ? 0 : random.nextInt(stride)));
    }

    private int filedDay() {
        return random.nextInt(4) == 0 ? pick(0, 120000) : pick(0, Math.max(1, Math.min(120000, today + stride)));
    }

    private long digest() {
        return random.nextInt(4) == 0 ? random.nextInt(3) - 1 : random.nextLong();
    }

    private int spoilt() {
        return random.nextInt(5) == 0 ? random.nextInt() : random.nextInt(14) - 1;
    }

    private void tell(String name, long... numbers) {
        StringBuilder text = new StringBuilder(name);
        for (long each : numbers) {
            text.append(' ').append(each);
        }
        told = text.toString();
    }

    private Call[] pair(int kind) {
        return kind < 9 ? setUp(kind) : kind < 14 ? ask(kind) : kind < 19 ? lists(kind) : book(kind);
    }

    private Call[] setUp(int kind) {
        int folder = few(0, 15);
        int cls = few(0, 7);
        int day = day();
        int a = few(-1, 99);
        int b = few(-1, 99);
        switch (kind) {
            case 0: {
                int rights = random.nextInt(3) == 0 ? pick(0, 7) : 7;
                int officer = pick(0, 7);
                tell("officer", officer, rights);
                return calls(() -> { x.officer(officer, rights); return 0; }, () -> { y.officer(officer, rights); return 0; });
            }
            case 1: {
                int event = random.nextInt(3) == 0 || !y.events.containsKey(cls) ? pick(0, 3) : y.events.get(cls);
                int years = random.nextInt(3) == 0 ? pick(0, 100) : pick(0, 1);
                int months = pick(0, 11);
                int first = filedDay();
                boolean all = random.nextInt(3) == 0;
                tell("version", cls, event, years, months, all ? 1 : 0, first);
                return calls(() -> x.version(cls, event, years, months, all, first), () -> y.version(cls, event, years, months, all, first));
            }
            case 2: {
                int month = pick(1, 12);
                tell("fiscal", month);
                return calls(() -> { x.fiscal(month); return 0; }, () -> { y.fiscal(month); return 0; });
            }
            case 3:
                tell("open", folder, cls);
                return calls(() -> { x.open(folder, cls); return 0; }, () -> { y.open(folder, cls); return 0; });
            case 4:
                if (random.nextInt(4) != 0) {
                    return setUp(6);
                }
                tell("close", folder, day);
                return calls(() -> { x.close(folder, day); return 0; }, () -> { y.close(folder, day); return 0; });
            case 5:
                tell("left", folder, day);
                return calls(() -> { x.left(folder, day); return 0; }, () -> { y.left(folder, day); return 0; });
            case 6: {
                int size = pick(1, 65536);
                int c = few(-1, 99);
                long digest = digest();
                tell("file", folder, size, digest, a, b, c, day);
                return calls(() -> x.file(folder, size, digest, a, b, c, day), () -> y.file(folder, size, digest, a, b, c, day));
            }
            case 7: {
                int hold = pick(0, 7);
                int holdFolder = few(-1, 15);
                int holdCls = few(-1, 7);
                int first = filedDay();
                int last = random.nextBoolean() ? Math.min(120000, Math.max(first, today)) : filedDay();
                tell("hold", hold, holdFolder, holdCls, a, first, last);
                return calls(() -> { x.hold(hold, holdFolder, holdCls, a, first, last); return 0; }, () -> { y.hold(hold, holdFolder, holdCls, a, first, last); return 0; });
            }
            default: {
                int hold = pick(0, 7);
                tell("lift", hold);
                return calls(() -> { x.lift(hold); return 0; }, () -> { y.lift(hold); return 0; });
            }
        }
    }

    private Call[] ask(int kind) {
        int record = pick(0, Math.max(0, y.records.size() - 1));
        int what = pick(0, 4);
        switch (kind) {
            case 9:
                tell("covered", record);
                return calls(() -> x.covered(record), () -> y.covered(record));
            case 10:
                tell("due", record);
                return calls(() -> x.due(record), () -> y.due(record));
            case 11:
                tell("record", record, what);
                return calls(() -> x.record(record, what), () -> y.record(record, what));
            case 12:
                tell("read", record);
                return calls(() -> x.read(record), () -> y.read(record));
            default: {
                int key = few(0, 99);
                int first = filedDay();
                int last = random.nextBoolean() ? 120000 : filedDay();
                int k = few(0, 9);
                tell("find", key, first, last, k);
                return calls(() -> x.find(key, first, last, k), () -> y.find(key, first, last, k));
            }
        }
    }

    private Call[] lists(int kind) {
        int officer = pick(0, 7);
        int list = pick(0, Math.max(0, y.lists.size() - 1));
        int day = day();
        switch (kind) {
            case 14:
                tell("draw", officer, day);
                return calls(() -> x.draw(officer, day), () -> y.draw(officer, day));
            case 15: {
                int i = few(0, 64);
                tell("listed", list, i);
                return calls(() -> x.listed(list, i), () -> y.listed(list, i));
            }
            case 16:
                tell("approve", list, officer);
                return calls(() -> x.approve(list, officer), () -> y.approve(list, officer));
            case 17: {
                int record = pick(0, 63);
                tell("strike", list, record);
                return calls(() -> x.strike(list, record), () -> y.strike(list, record));
            }
            default:
                tell("carry", list, officer, day);
                return calls(() -> x.carry(list, officer, day), () -> y.carry(list, officer, day));
        }
    }

    private Call[] book(int kind) {
        int i = random.nextInt(3) == 0 ? y.acts.size() - 1 : pick(0, Math.max(0, y.acts.size() - 1));
        int what = pick(0, 3);
        switch (kind) {
            case 19:
                what = pick(0, 4);
                break;
            case 22:
                if (random.nextInt(8) != 0) {
                    kind = 21;
                }
                break;
            default:
                break;
        }
        int number = what;
        switch (kind) {
            case 19:
                tell("count", number);
                return calls(() -> x.count(number), () -> y.count(number));
            case 20:
                tell("act", i, number);
                return calls(() -> x.act(i, number), () -> y.act(i, number));
            case 21:
                tell("link", i);
                return calls(() -> x.link(i), () -> y.link(i));
            case 22: {
                int v = spoilt();
                tell("spoil", i, number, v);
                return calls(() -> { x.spoil(i, number, v); return 0; }, () -> { y.spoil(i, number, v); return 0; });
            }
            case 23:
                tell("broken");
                return calls(() -> x.broken(), () -> y.broken());
            default: {
                int day = pick(0, 120000);
                int years = pick(0, 100);
                int months = pick(0, 11);
                tell("later", day, years, months);
                return calls(() -> x.later(day, years, months), () -> y.later(day, years, months));
            }
        }
    }

    private static Call[] calls(Call office, Call plain) {
        return new Call[] {office, plain};
    }
}
