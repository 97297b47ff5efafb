import java.util.Random;
import java.util.function.IntSupplier;

/** Long runs of calls, each answered by the class and by the plain model: the answers must be the same. */
public final class ModelTests {
    private static final int RUNS = 1200;
    private static final int CALLS = 511;
    private static final String[] BLOCKS = {"w", "j", "r", "l", "h", "s", "t"};

    private final Random random;
    private final int run;
    private final TrimmedLog x = new TrimmedLog();
    private final PlainModel m = new PlainModel();
    // Some runs write much, some tick much, some go near the limits: each has weights of its own.
    private final int[] weights = new int[31];
    private int total;
    private boolean agrees = true;

    private ModelTests(int run) {
        this.run = run;
        random = new Random(run);
        for (int i = 2; i <= 31; i++) {
            boolean action = i >= 13 && i <= 19;
            int weight = action ? random.nextInt(4) == 0 ? 60 : 20 : i >= 2 && i <= 5 || i >= 28 ? 3 : 6;
            if (i == 13) {
                // Every fifth run writes all rows that there may be.
                weight *= run % 5 == 0 ? 30 : 2 + random.nextInt(4);
            } else if (i == 5 || i == 30 || i == 31) {
                weight = 1;
            } else if (i == 27) {
                weight = 2;
            }
            weights[i - 1] = weight;
            total += weight;
        }
    }

    public static void main(String[] args) {
        for (int run = 0; run < RUNS; run++) {
            new ModelTests(run).go();
        }
        Check.end("ModelTests");
    }

    private void go() {
        for (int i = 0; i < CALLS && agrees; i++) {
            int pick = random.nextInt(total);
            int promise = 1;
            while (pick >= weights[promise - 1]) {
                pick -= weights[promise - 1];
                promise++;
            }
            call(promise);
        }
    }

    private void same(String call, IntSupplier theirs, IntSupplier plain) {
        String got = Check.answer(theirs);
        String want = Check.answer(plain);
        agrees &= got.equals(want);
        Check.due("run " + run + ": " + call, got, want);
    }

    /** A number from low to high, and now and then one just outside, or far away. */
    private int from(int low, int high) {
        int kind = random.nextInt(60);
        if (kind == 0) {
            return low - 1;
        } else if (kind == 1) {
            return high + 1;
        } else if (kind == 2 && random.nextInt(4) == 0) {
            return random.nextInt();
        }
        return kind < 8 ? low : kind < 14 ? high : low + random.nextInt(high - low + 1);
    }

    private int small(int low, int high) {
        return random.nextInt(3) == 0 ? from(low, high) : from(low, Math.min(high, low + 4));
    }

    private void call(int promise) {
        int a = from(0, 7);
        switch (promise) {
            case 2 -> text();
            case 3 -> same("clearText()", x::clearText, m::clearText);
            case 4 -> same("errorPosition()", x::errorPosition, m::errorPosition);
            case 5 -> same("load()", x::load, m::load);
            case 6 -> one("about", from(0, 11), x::about, m::about);
            case 7 -> two("rowOf", from(m.now.first(), m.now.end()), from(0, 5), x::rowOf, m::rowOf);
            case 8 -> two("segmentOf", from(0, m.now.segments.size()), from(0, 5), x::segmentOf, m::segmentOf);
            case 9 -> two("readerOf", a, from(0, 8), x::readerOf, m::readerOf);
            case 10 -> two("table", a, from(0, 7), x::table, m::table);
            case 11 -> one("base", a, x::base, m::base);
            case 12 -> one("setting", from(0, 5), x::setting, m::setting);
            case 13 -> write(a, from(0, 99), from(1, 40));
            case 14 -> join(a, from(0, 2), random.nextBoolean());
            case 15 -> two("read", a, small(1, 50), x::read, m::read);
            case 16 -> one("leave", a, x::leave, m::leave);
            case 17 -> hold(a, random.nextInt(3) > 0);
            case 18 -> set(from(0, 5));
            case 19 -> one("ticks", small(1, 99), x::ticks, m::ticks);
            case 20 -> undo();
            case 21 -> same("why()", x::why, m::why);
            case 22 -> same("slowest()", x::slowest, m::slowest);
            case 23 -> truth(a, from(m.now.first(), m.now.end()), from(0, 1));
            case 24 -> same("droppedIn()", x::droppedIn, m::droppedIn);
            case 25 -> one("lostIn", a, x::lostIn, m::lostIn);
            case 26 -> one("ifFree", a, x::ifFree, m::ifFree);
            case 27 -> one("leastRoom", small(1, 200), x::leastRoom, m::leastRoom);
            case 28 -> script();
            case 29 -> simulate(random.nextLong(), from(1, 60));
            case 30 -> one("save", from(0, 1), x::save, m::save);
            default -> one("restore", from(0, 1), x::restore, m::restore);
        }
    }

    private interface One {
        int of(int a);
    }

    private interface Two {
        int of(int a, int b);
    }

    private void one(String name, int a, One theirs, One plain) {
        same(name + "(" + a + ")", () -> theirs.of(a), () -> plain.of(a));
    }

    private void two(String name, int a, int b, Two theirs, Two plain) {
        same(name + "(" + a + ", " + b + ")", () -> theirs.of(a, b), () -> plain.of(a, b));
    }

    private void write(int key, int value, int length) {
        same("write(" + key + ", " + value + ", " + length + ")",
                () -> x.write(key, value, length), () -> m.write(key, value, length));
    }

    private void join(int name, int how, boolean held) {
        same("join(" + name + ", " + how + ", " + held + ")",
                () -> x.join(name, how, held), () -> m.join(name, how, held));
    }

    private void hold(int name, boolean held) {
        same("hold(" + name + ", " + held + ")", () -> x.hold(name, held), () -> m.hold(name, held));
    }

    private void set(int what) {
        boolean known = what >= 0 && what <= 5;
        int low = known ? PlainModel.LOW[what] : 0;
        int high = known ? PlainModel.HIGH[what] : 4000;
        int v = high > 1000 && random.nextInt(4) > 0 ? random.nextInt(300) : small(low, high);
        two("set", what, v, x::set, m::set);
    }

    private void undo() {
        int n = random.nextInt(8) == 0 ? 16 : 1;
        for (int i = 0; i < n; i++) {
            same("undo()", x::undo, m::undo);
        }
    }

    private void truth(int key, int row, int way) {
        same("truth(" + key + ", " + row + ", " + way + ")", () -> x.truth(key, row, way), () -> m.truth(key, row, way));
    }

    private void simulate(long seed, int turns) {
        same("simulate(" + seed + ", " + turns + ")", () -> x.simulate(seed, turns), () -> m.simulate(seed, turns));
    }

    private void script() {
        int n = from(1, 3);
        StringBuilder digits = new StringBuilder();
        for (int i = 0; i < Math.max(1, Math.min(n, 3)); i++) {
            digits.append(group());
        }
        if (random.nextInt(20) == 0) {
            digits.insert(0, 1 + random.nextInt(8));
        }
        long script = Long.parseLong(digits.substring(0, Math.min(18, digits.length())))
                * (random.nextInt(40) == 0 ? -1 : 1);
        same("runScript(" + n + ", " + script + ")", () -> x.runScript(n, script), () -> m.runScript(n, script));
    }

    private String group() {
        int d = random.nextInt(9);
        int two = random.nextInt(100);
        int three = random.nextInt(Math.max(m.now.end(), 3) + 2);
        String s = switch (random.nextInt(10)) {
            case 0 -> String.format("1%d%02d%02d", d, two, random.nextInt(42));
            case 1 -> String.format("2%d00%02d", d, random.nextInt(52));
            case 2 -> String.format("3%d%d00%d", d, random.nextInt(4), random.nextInt(3));
            case 3 -> String.format("4%d0000", d);
            case 4 -> String.format("5000%02d", two);
            case 5 -> String.format("6%d0%03d", d, three);
            case 6 -> String.format("7%d00%02d", d, Math.max(0, d > 7 ? two : m.truth(d, m.now.end(), 0)));
            case 7 -> String.format("800%03d", random.nextInt(m.now.first() + 3));
            case 8 -> String.format("9%d000%d", d, random.nextInt(3));
            default -> String.format("%06d", random.nextInt(1000000));
        };
        if (random.nextInt(10) == 0) {
            int i = random.nextInt(6);
            s = s.substring(0, i) + random.nextInt(10) + s.substring(i + 1);
        }
        return s;
    }

    /** Types a part of a log, at times a faulty one. */
    private void text() {
        StringBuilder s = new StringBuilder();
        if (random.nextInt(3) == 0) {
            same("clearText()", x::clearText, m::clearText);
            s.append('G');
        }
        for (int i = random.nextInt(6); i > 0; i--) {
            s.append(block());
        }
        if (random.nextInt(12) == 0 && s.length() > 0) {
            int c = random.nextInt(5) == 0 ? random.nextInt(256) : "0123456789+-GwjrlhstA ".charAt(random.nextInt(22));
            s.setCharAt(random.nextInt(s.length()), (char) c);
        }
        if (random.nextInt(12) == 0 && s.length() > 0) {
            s.setLength(random.nextInt(s.length()));
        }
        for (int i = 0; i < s.length(); i++) {
            one("append", s.charAt(i), x::append, m::append);
        }
        one("append", random.nextBoolean() ? -1 : 256, x::append, m::append);
        same("errorPosition()", x::errorPosition, m::errorPosition);
    }

    private String block() {
        int name = random.nextInt(8);
        String sign = random.nextBoolean() ? "+" : "-";
        String kind = BLOCKS[random.nextInt(BLOCKS.length)];
        return kind + switch (kind) {
            case "w" -> String.format("%d%02d%02d", name, random.nextInt(100), 1 + random.nextInt(40));
            case "j" -> name + "" + random.nextInt(3) + sign;
            case "r" -> String.format("%d%02d", name, 1 + random.nextInt(50));
            case "l" -> name + "";
            case "h" -> name + sign;
            case "s" -> String.format("%d%04d", random.nextInt(6), random.nextInt(random.nextBoolean() ? 100 : 4001));
            default -> String.format("%02d", 1 + random.nextInt(99));
        };
    }
}
