import java.util.ArrayDeque;
import java.util.ArrayList;
import java.util.Deque;
import java.util.List;
import java.util.Map;
import java.util.Random;
import java.util.TreeMap;
import java.util.function.LongSupplier;

/**
 * Long runs of calls, the same ones every time, on an object and on the model: each answer and all that can be asked.
 * The questions go far beyond 512 calls, behind which the document leaves the answers free: this class counts no calls,
 * so what it answers to them tells of the run. The tests of single sentences keep to 512.
 */
public final class ModelTest {
    private static final int RUNS = 3000;
    private static final int CALLS = 512;
    private static final Map<String, Integer> SEEN = new TreeMap<>();

    private final HostedCalls x = new HostedCalls();
    private final Model m = new Model();
    private final Random random;
    private final int run;
    private final Deque<String> told = new ArrayDeque<>();
    private int calls = 0;
    private int free = 0;
    private boolean same = true;

    private ModelTest(int run) {
        this.run = run;
        random = new Random(run);
    }

    public static void main(String[] args) {
        int wrong = 0;
        for (int run = 0; run < RUNS && wrong < 3; run++) {
            wrong += new ModelTest(run).isSame() ? 0 : 1;
        }
        wrong += wasSeen() ? 0 : 1;
        if (wrong != 0) {
            System.exit(1);
        }
    }

    /** What the runs must have come upon, so that this test can not become an empty one unseen. */
    private static boolean wasSeen() {
        boolean all = true;
        List<String> due = new ArrayList<>();
        for (int code = 0; code <= 14; code++) {
            if (code != 13) {
                due.add("call " + code);
            }
            if (code != 9 && code != 13 && code != 14) {
                due.add("back " + code);
            }
        }
        due.addAll(List.of("drop 0", "drop 1", "trap 0", "close 3", "deep stack", "lent on"));
        for (String one : due) {
            if (SEEN.getOrDefault(one, 0) < 3) {
                System.out.println("the runs did not come upon: " + one);
                all = false;
            }
        }
        return all;
    }

    private boolean isSame() {
        makeTypes();
        for (int k = 0; k < 4 + random.nextInt(3); k++) {
            instance();
        }
        for (int k = 0; k < 13; k++) {
            int i = any(6);
            int argument = anyType();
            int result = anyType();
            both("function(" + i + ", " + argument + ", " + result + ")", () -> x.function(i, argument, result),
                    () -> m.function(i, argument, result));
        }
        while (calls < CALLS && same && m.instances.stream().anyMatch(i -> i.state < 2)) {
            step();
            if (calls % 8 == 0) {
                compareAll();
            }
        }
        compareAll();
        return same;
    }

    private void instance() {
        both("instance()", x::instance, m::instance);
    }

    private static long answer(LongSupplier call) {
        try {
            return call.getAsLong();
        } catch (RuntimeException e) {
            return Long.MIN_VALUE + Math.abs(e.getClass().getName().hashCode());
        }
    }

    private long both(String call, LongSupplier real, LongSupplier model) {
        calls++;
        long due = answer(model);
        long got = answer(real);
        told.addLast(call + " -> " + due);
        if (told.size() > 60) {
            told.removeFirst();
        }
        if (got != due && same) {
            same = false;
            System.out.println("run " + run + ", call " + calls + ": answered " + got + ", due is " + due);
            told.forEach(System.out::println);
        }
        SEEN.merge(call.substring(0, call.indexOf('(')) + " " + due, 1, Integer::sum);
        return due;
    }

    private int any(int n) {
        return random.nextInt(40) == 0 ? random.nextInt(40) - 5 : random.nextInt(n);
    }

    private int anyType() {
        return any(Math.max(1, m.types.size()));
    }

    private void makeTypes() {
        int[] simple = {11, 12, 0, 6, 7, 1 + random.nextInt(5), 11, 12};
        for (int kind : simple) {
            int n = kind == 7 ? 1 + random.nextInt(5) : random.nextInt(kind >= 11 ? 2 : 4);
            both("type(" + kind + ", " + n + ")", () -> x.type(kind, n), () -> m.type(kind, n));
        }
        for (int k = 0; k < 34; k++) {
            int kind = random.nextInt(5) == 0 ? any(13) : 8 + random.nextInt(3);
            int parts = kind == 8 ? 1 : kind == 9 || kind == 10 ? 1 + random.nextInt(4) : 0;
            for (int p = 0; p < parts; p++) {
                int t = anyType();
                both("part(" + t + ")", () -> x.part(t), () -> m.part(t));
            }
            int n = any(4);
            both("type(" + kind + ", " + n + ")", () -> x.type(kind, n), () -> m.type(kind, n));
            int t = anyType();
            int u = anyType();
            int what = any(9);
            both("fits(" + t + ", " + u + ")", () -> x.fits(t, u), () -> m.fits(t, u));
            both("layout(" + t + ", " + what + ")", () -> x.layout(t, what), () -> m.layout(t, what));
            calls -= parts + 3;
        }
        calls = 0;
    }

    private void step() {
        if (m.stack.isEmpty() && random.nextInt(4) != 0) {
            int i = any(m.instances.size());
            both("enter(" + i + ")", () -> {
                x.enter(i);
                return 0;
            }, () -> {
                m.enter(i);
                return 0;
            });
            return;
        }
        switch (random.nextInt(16)) {
            case 0, 1, 2 -> {
                int kind = any(random.nextInt(2) + 1);
                both("make(" + kind + ")", () -> x.make(kind), () -> m.make(kind));
            }
            case 3 -> {
                int h = any(6);
                both("drop(" + h + ")", () -> x.drop(h) ? 1 : 0, () -> m.drop(h) ? 1 : 0);
            }
            case 4, 5, 6, 7, 8 -> call();
            case 9, 10, 11 -> back();
            case 12 -> write(any(6), any(256), 1 + any(8), random.nextLong());
            case 13 -> seldom();
            case 14 -> leaveSeldom();
            default -> fillHandles();
        }
    }

    private void leaveSeldom() {
        if (random.nextInt(3) == 0) {
            both("leave()", () -> {
                x.leave();
                return 0;
            }, () -> {
                m.leave();
                return 0;
            });
        }
    }

    private void seldom() {
        int i = any(6);
        switch (random.nextInt(12)) {
            case 0 -> both("close(" + i + ")", () -> x.close(i), () -> m.close(i));
            case 1 -> both("trap()", () -> {
                x.trap();
                return 0;
            }, () -> {
                m.trap();
                return 0;
            });
            case 2 -> instance();
            case 3 -> back();
            default -> call();
        }
    }

    /** Now and then an instance makes so many resources that it, or whom it calls, has no handle left. */
    private void fillHandles() {
        if (random.nextInt(6) == 0) {
            for (int k = 0; k < 14; k++) {
                int kind = random.nextInt(2);
                both("make(" + kind + ")", () -> x.make(kind), () -> m.make(kind));
            }
        }
    }

    private void write(int i, int at, int n, long w) {
        both("write(" + i + ", " + at + ", " + n + ", " + w + ")", () -> {
            x.write(i, at, n, w);
            return 0;
        }, () -> {
            m.write(i, at, n, w);
            return 0;
        });
    }

    private void call() {
        List<Integer> ready = new ArrayList<>();
        for (int k = 0; k < m.functions.size(); k++) {
            if (m.instances.get(m.functions.get(k).instance()).state == 0) {
                ready.add(k);
            }
        }
        if (ready.isEmpty() && random.nextInt(20) != 0) {
            back();
            return;
        }
        boolean wild = ready.isEmpty() || random.nextInt(30) == 0;
        int f = wild ? any(Math.max(1, m.functions.size())) : ready.get(random.nextInt(ready.size()));
        boolean known = f >= 0 && f < m.functions.size();
        int t = known ? fitting(m.functions.get(f).argument()) : anyType();
        int at = laidValue(t);
        both("call(" + f + ", " + t + ", " + at + ")", () -> x.call(f, t, at), () -> m.call(f, t, at));
        if (m.stack.size() >= 4) {
            SEEN.merge("deep stack", 1, Integer::sum);
        }
        if (m.instances.stream().flatMap(i -> i.handles.values().stream()).anyMatch(
                h -> h.lender != null && h.lender.lender != null)) {
            SEEN.merge("lent on", 1, Integer::sum);
        }
    }

    private void back() {
        boolean known = m.stack.size() >= 2;
        int t = known ? fitting(m.stack.get(m.stack.size() - 1).function().result()) : anyType();
        int at = laidValue(t);
        both("back(" + t + ", " + at + ")", () -> x.back(t, at), () -> m.back(t, at));
    }

    /** Mostly a type that fits, and of these not always the same one. */
    private int fitting(Model.T u) {
        if (random.nextInt(20) == 0) {
            return anyType();
        }
        List<Integer> good = new ArrayList<>();
        for (int t = 0; t < m.types.size(); t++) {
            if (m.fits(t, m.types.indexOf(u)) == 0) {
                good.add(t);
            }
        }
        return good.get(random.nextInt(good.size()));
    }

    /** Lays a value of a type in the top's memory, mostly a good one: its place. */
    private int laidValue(int t) {
        if (t < 0 || t >= m.types.size() || m.stack.isEmpty() || random.nextInt(60) == 0) {
            return random.nextInt(300) - 20;
        }
        free = 0;
        Model.T type = m.types.get(t);
        int at = newPlace(type.size(), type.alignment());
        lay(m.level(m.stack.size() - 1), type, at, random.nextInt(8) != 0);
        return at;
    }

    private int newPlace(int size, int alignment) {
        int wide = random.nextInt(150) == 0 ? 1 : alignment;
        int place = (free + wide - 1) / wide * wide + (random.nextInt(300) == 0 ? 1 : 0);
        free = place + size;
        return place;
    }

    private void put(int i, int at, int n, long w) {
        if (at >= 0 && at < 256) {
            write(i, at, n, w);
            calls--;
        }
    }

    private void lay(int i, Model.T t, int at, boolean good) {
        if (!good && random.nextInt(8) == 0) {
            put(i, at, 1, random.nextInt(256));
            return;
        }
        switch (t.kind()) {
            case 0 -> put(i, at, 1, random.nextInt(2));
            case 5 -> put(i, at, 4, new int[] {65, 55295, 57344, 1114111, good ? 0 : 55296}[random.nextInt(5)]);
            case 6 -> layText(i, at, good);
            case 7 -> put(i, at, 1, random.nextInt(t.n()));
            case 8 -> {
                Model.T part = t.parts().get(0);
                int count = random.nextInt(good ? 3 : 5);
                if (random.nextInt(50) == 0) {
                    count = 205;
                }
                int place = newPlace(Math.min(count, 8) * part.size(), part.alignment());
                put(i, at, 4, place | (long) count << 16);
                for (int k = 0; k < Math.min(count, 8); k++) {
                    lay(i, part, place + k * part.size(), good);
                }
            }
            case 9 -> {
                for (int k = 0; k < t.parts().size(); k++) {
                    lay(i, t.parts().get(k), at + t.offsets().get(k), good);
                }
            }
            case 10 -> {
                int which = random.nextInt(t.parts().size());
                put(i, at, 1, which);
                lay(i, t.parts().get(which), at + t.offsets().get(which), good);
            }
            case 11, 12 -> layHandle(i, t, at);
            default -> put(i, at, t.size(), random.nextLong());
        }
    }

    private void layText(int i, int at, boolean good) {
        int[][] groups = {{65}, {194, 128}, {223, 191}, {224, 160, 128}, {237, 159, 191}, {239, 191, 191},
            {240, 144, 128, 128}, {244, 143, 191, 191}, {237, 160, 128}, {192, 128}, {244, 144, 128, 128}};
        List<Integer> bytes = new ArrayList<>();
        for (int k = random.nextInt(4); k > 0; k--) {
            for (int b : groups[random.nextInt(good ? 8 : groups.length)]) {
                bytes.add(b);
            }
        }
        int count = bytes.size() + (good ? 0 : random.nextInt(6) == 0 ? random.nextInt(3) - 1 : 0);
        int place = newPlace(bytes.size(), 1);
        if (random.nextInt(20) == 0) {
            place = newPlace(0, 1);
            count = random.nextInt(130);
            for (int k = 0; k < count; k += 8) {
                put(i, place + k, 8, 0x6867666564636261L);
            }
        }
        put(i, at, 4, place | (long) Math.max(0, count) << 16);
        for (int k = 0; k < bytes.size(); k++) {
            put(i, place + k, 1, bytes.get(k));
        }
    }

    private void layHandle(int i, Model.T t, int at) {
        List<Integer> good = new ArrayList<>();
        m.instances.get(i).handles.forEach((h, handle) -> {
            if (handle.kind == t.n() && (t.kind() == 12 || handle.lender == null || random.nextInt(4) == 0)) {
                good.add(h);
            }
        });
        if (good.isEmpty() && random.nextInt(20) != 0) {
            both("make(" + t.n() + ")", () -> x.make(t.n()), () -> m.make(t.n()));
            m.instances.get(i).handles.keySet().forEach(good::add);
        }
        boolean known = !good.isEmpty() && random.nextInt(30) != 0;
        put(i, at, 1, known ? good.get(random.nextInt(good.size())) : random.nextInt(20));
    }

    private void compareAll() {
        ask("passed", 0, 0, x.passed(), m.passed());
        ask("depth", 0, 0, x.depth(), m.depth());
        for (int k = -1; k <= 6; k++) {
            ask("level", k, 0, x.level(k), m.level(k));
        }
        for (int k = 0; k < 4; k++) {
            ask("resources", k, 0, x.resources(k, false), m.resources(k, false));
            ask("resources gone", k, 0, x.resources(k, true), m.resources(k, true));
        }
        for (int what = 0; what < 3; what++) {
            ask("latest", what, 0, x.latest(what), m.latest(what));
            for (int i = 0; i < m.instances.size(); i++) {
                ask("state", i, what, x.state(i, what), m.state(i, what));
            }
        }
        for (int i = 0; i < m.instances.size(); i++) {
            for (int at = 0; at < 256; at++) {
                ask("read", i, at, x.read(i, at), m.read(i, at));
            }
            for (int h = 4; h < 68; h++) {
                ask("handle", i, h, x.handle(i, h / 4, h % 4), m.handle(i, h / 4, h % 4));
            }
        }
    }

    private void ask(String call, int i, int k, int got, int due) {
        if (got != due) {
            both(call + "(" + i + ", " + k + ")", () -> got, () -> due);
        }
    }
}
