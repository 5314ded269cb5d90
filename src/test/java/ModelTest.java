import java.util.ArrayList;
import java.util.List;
import java.util.Map;
import java.util.Random;
import java.util.TreeMap;
import java.util.function.Consumer;
import java.util.function.LongSupplier;
import java.util.function.ToLongFunction;

/**
 * Long runs of calls, the same ones every time. The model tells what is due to each call of a run, and to all that can
 * be asked behind it; the run is gone through on a new object for as many questions as 512 calls leave room for.
 */
public final class ModelTest {
    private static final int RUNS = 3000;
    private static final int MOST_CALLS = 512;
    /** So that there is room for questions behind the longest run. */
    private static final int LONGEST_RUN = 470;
    private static final Map<String, Integer> SEEN = new TreeMap<>();

    record Call(String told, ToLongFunction<HostedCalls> real, long due) { }

    private final Model m = new Model();
    private final Random random;
    private final int number;
    private final int length;
    private final List<Call> run = new ArrayList<>();
    private final List<Call> questions = new ArrayList<>();
    private int free = 0;

    private ModelTest(int number) {
        this.number = number;
        random = new Random(number);
        length = LONGEST_RUN - random.nextInt(300);
    }

    public static void main(String[] args) {
        int wrong = 0;
        for (int number = 0; number < RUNS && wrong < 3; number++) {
            ModelTest test = new ModelTest(number);
            test.makeRun();
            test.askAll();
            wrong += test.isSame() ? 0 : 1;
        }
        wrong += wasSeen() ? 0 : 1;
        if (wrong != 0) {
            System.exit(1);
        }
    }

    /** What the runs must have come upon, so that this test can not become an empty one unseen. */
    private static boolean wasSeen() {
        boolean all = true;
        List<String> due = new ArrayList<>();
        for (int code = 0; code <= 14; code++) {
            if (code != 13) {
                due.add("call " + code);
            }
            if (code != 9 && code != 13 && code != 14) {
                due.add("back " + code);
            }
        }
        due.addAll(List.of("drop 0", "drop 1", "trap 0", "close 3", "deep stack", "lent on"));
        for (String one : due) {
            if (SEEN.getOrDefault(one, 0) < 3) {
                System.out.println("the runs did not come upon: " + one);
                all = false;
            }
        }
        return all;
    }

    private boolean isSame() {
        int bundle = MOST_CALLS - run.size();
        for (int from = 0; from < questions.size(); from += bundle) {
            HostedCalls x = new HostedCalls();
            List<Call> asked = questions.subList(from, Math.min(from + bundle, questions.size()));
            if (!goesThrough(x, run) || !goesThrough(x, asked)) {
                return false;
            }
        }
        return true;
    }

    private boolean goesThrough(HostedCalls x, List<Call> calls) {
        for (int k = 0; k < calls.size(); k++) {
            Call call = calls.get(k);
            long got = answer(() -> call.real.applyAsLong(x));
            if (got != call.due) {
                System.out.println("run " + number + ": " + call.told + " answered " + got + ", due is " + call.due);
                List<Call> before = calls == run ? run.subList(0, k) : run;
                before.forEach(one -> System.out.println("  " + one.told + " -> " + one.due));
                return false;
            }
        }
        return true;
    }

    private static long answer(LongSupplier call) {
        try {
            return call.getAsLong();
        } catch (RuntimeException e) {
            return Long.MIN_VALUE + Math.abs(e.getClass().getName().hashCode());
        }
    }

    private boolean hasRoom() {
        return run.size() < length;
    }

    /** The next call of the run, if there is room for it. */
    private void next(String call, ToLongFunction<HostedCalls> real, LongSupplier model) {
        if (hasRoom()) {
            long due = answer(model);
            run.add(new Call(call, real, due));
            SEEN.merge(call.substring(0, call.indexOf('(')) + " " + due, 1, Integer::sum);
        }
    }

    /** A call without an answer. */
    private void nextWithout(String call, Consumer<HostedCalls> real, Runnable model) {
        next(call, x -> {
            real.accept(x);
            return 0;
        }, () -> {
            model.run();
            return 0;
        });
    }

    private void makeRun() {
        makeTypes();
        for (int k = 0; k < 4 + random.nextInt(3); k++) {
            instance();
        }
        for (int k = 0; k < 13; k++) {
            int i = any(6);
            int argument = anyType();
            int result = anyType();
            next("function(" + i + ", " + argument + ", " + result + ")", x -> x.function(i, argument, result),
                    () -> m.function(i, argument, result));
        }
        // A step may add nothing, so they are counted, too.
        for (int k = 0; k < 4 * MOST_CALLS && hasRoom() && wellOnes() > 1; k++) {
            step();
        }
    }

    private long wellOnes() {
        return m.instances.stream().filter(i -> i.state < 2).count();
    }

    private void instance() {
        next("instance()", x -> x.instance(), m::instance);
    }

    private int any(int n) {
        return random.nextInt(40) == 0 ? random.nextInt(40) - 5 : random.nextInt(n);
    }

    private int anyType() {
        return any(Math.max(1, m.types.size()));
    }

    private void makeTypes() {
        int[] simple = {11, 12, 0, 6, 7, 7, 1 + random.nextInt(5), 11, 12};
        for (int kind : simple) {
            int n = kind == 7 ? 1 + random.nextInt(5) : random.nextInt(kind >= 11 ? 2 : 4);
            next("type(" + kind + ", " + n + ")", x -> x.type(kind, n), () -> m.type(kind, n));
        }
        for (int k = 10 + random.nextInt(26); k > 0; k--) {
            Model.T like = m.types.get(random.nextInt(m.types.size()));
            boolean alike = !like.parts().isEmpty() && random.nextInt(2) == 0;
            int kind = alike ? like.kind() : random.nextInt(5) == 0 ? any(13) : 8 + random.nextInt(3);
            for (int t : alike ? partsLikeThoseOf(like) : anyParts(kind)) {
                next("part(" + t + ")", x -> x.part(t), () -> m.part(t));
            }
            int n = any(4);
            next("type(" + kind + ", " + n + ")", x -> x.type(kind, n), () -> m.type(kind, n));
        }
    }

    private List<Integer> anyParts(int kind) {
        int count = kind == 8 ? 1 : kind == 9 || kind == 10 ? 1 + random.nextInt(4) : 0;
        List<Integer> parts = new ArrayList<>();
        for (int k = 0; k < count; k++) {
            parts.add(anyType());
        }
        return parts;
    }

    /** So that there are types that fit one another, and are not the same. */
    private List<Integer> partsLikeThoseOf(Model.T like) {
        List<Integer> parts = new ArrayList<>();
        for (Model.T part : like.parts()) {
            parts.add(fitting(part));
        }
        if (like.kind() != 8 && random.nextInt(2) == 0) {
            parts.add(anyType());
        } else if (parts.size() > 1 && random.nextInt(2) == 0) {
            parts.remove(parts.size() - 1);
        }
        return parts;
    }

    private void step() {
        if (m.stack.isEmpty() && random.nextInt(4) != 0) {
            int i = random.nextInt(20) == 0 ? any(m.instances.size()) : readyOne();
            nextWithout("enter(" + i + ")", x -> x.enter(i), () -> m.enter(i));
            return;
        }
        switch (random.nextInt(16)) {
            case 0, 1, 2 -> {
                int kind = any(random.nextInt(2) + 1);
                next("make(" + kind + ")", x -> x.make(kind), () -> m.make(kind));
            }
            case 3 -> {
                int h = any(6);
                next("drop(" + h + ")", x -> x.drop(h) ? 1 : 0, () -> m.drop(h) ? 1 : 0);
            }
            case 4, 5, 6, 7, 8 -> call();
            case 9, 10, 11 -> back();
            case 12 -> write(any(6), any(256), 1 + any(8), random.nextLong());
            case 13 -> seldom();
            case 14 -> leaveSeldom();
            default -> fillHandles();
        }
    }

    private int readyOne() {
        int i = random.nextInt(m.instances.size());
        while (m.instances.get(i).state != 0) {
            i = (i + 1) % m.instances.size();
        }
        return i;
    }

    private void leaveSeldom() {
        if (random.nextInt(3) == 0) {
            nextWithout("leave()", x -> x.leave(), () -> m.leave());
        }
    }

    private void seldom() {
        int i = any(6);
        switch (random.nextInt(12)) {
            case 0 -> next("close(" + i + ")", x -> x.close(i), () -> m.close(i));
            case 1 -> nextWithout("trap()", x -> x.trap(), () -> m.trap());
            case 2 -> instance();
            case 3 -> back();
            default -> call();
        }
    }

    /** Now and then an instance makes so many resources that it, or whom it calls, has no handle left. */
    private void fillHandles() {
        if (random.nextInt(6) == 0) {
            for (int k = 0; k < 14; k++) {
                int kind = random.nextInt(2);
                next("make(" + kind + ")", x -> x.make(kind), () -> m.make(kind));
            }
        }
    }

    private void write(int i, int at, int n, long w) {
        nextWithout("write(" + i + ", " + at + ", " + n + ", " + w + ")", x -> x.write(i, at, n, w),
                () -> m.write(i, at, n, w));
    }

    private void call() {
        List<Integer> ready = new ArrayList<>();
        for (int k = 0; k < m.functions.size(); k++) {
            if (m.instances.get(m.functions.get(k).instance()).state == 0) {
                ready.add(k);
            }
        }
        if (ready.isEmpty() && random.nextInt(20) != 0) {
            back();
            return;
        }
        boolean wild = ready.isEmpty() || random.nextInt(30) == 0;
        int f = wild ? any(Math.max(1, m.functions.size())) : ready.get(random.nextInt(ready.size()));
        boolean known = f >= 0 && f < m.functions.size();
        int t = known ? fitting(m.functions.get(f).argument()) : anyType();
        int at = laidValue(t);
        next("call(" + f + ", " + t + ", " + at + ")", x -> x.call(f, t, at), () -> m.call(f, t, at));
        if (m.stack.size() >= 4) {
            SEEN.merge("deep stack", 1, Integer::sum);
        }
        if (m.instances.stream().flatMap(i -> i.handles.values().stream()).anyMatch(
                h -> h.lender != null && h.lender.lender != null)) {
            SEEN.merge("lent on", 1, Integer::sum);
        }
    }

    private void back() {
        boolean known = m.stack.size() >= 2;
        if (!known && random.nextInt(20) != 0) {
            leaveSeldom();
            return;
        }
        int t = known ? fitting(m.stack.get(m.stack.size() - 1).function().result()) : anyType();
        int at = laidValue(t);
        next("back(" + t + ", " + at + ")", x -> x.back(t, at), () -> m.back(t, at));
    }

    /** Mostly a type that fits, and of these not always the same one. */
    private int fitting(Model.T u) {
        if (random.nextInt(20) == 0) {
            return anyType();
        }
        List<Integer> good = new ArrayList<>();
        List<Integer> others = new ArrayList<>();
        for (int t = 0; t < m.types.size(); t++) {
            if (m.fits(t, m.types.indexOf(u)) == 0) {
                good.add(t);
                if (!m.types.get(t).equals(u)) {
                    others.add(t);
                }
            }
        }
        boolean other = !others.isEmpty() && random.nextInt(3) != 0;
        return other ? others.get(random.nextInt(others.size())) : good.get(random.nextInt(good.size()));
    }

    /** Lays a value of a type in the top's memory, mostly a good one: its place. */
    private int laidValue(int t) {
        if (t < 0 || t >= m.types.size() || m.stack.isEmpty() || random.nextInt(60) == 0) {
            return random.nextInt(300) - 20;
        }
        free = 0;
        Model.T type = m.types.get(t);
        int at = newPlace(type.size(), type.alignment());
        lay(m.level(m.stack.size() - 1), type, at, random.nextInt(8) != 0);
        return at;
    }

    private int newPlace(int size, int alignment) {
        int wide = random.nextInt(150) == 0 ? 1 : alignment;
        int place = (free + wide - 1) / wide * wide + (random.nextInt(300) == 0 ? 1 : 0);
        free = place + size;
        return place;
    }

    private void put(int i, int at, int n, long w) {
        if (at >= 0 && at < 256) {
            write(i, at, n, w);
        }
    }

    private void lay(int i, Model.T t, int at, boolean good) {
        if (!good && random.nextInt(8) == 0) {
            put(i, at, 1, random.nextInt(256));
            return;
        }
        switch (t.kind()) {
            case 0 -> put(i, at, 1, random.nextInt(2));
            case 5 -> put(i, at, 4, new int[] {65, 55295, 57344, 1114111, good ? 0 : 55296}[random.nextInt(5)]);
            case 6 -> layText(i, at, good);
            case 7 -> put(i, at, 1, random.nextInt(t.n()));
            case 8 -> {
                Model.T part = t.parts().get(0);
                int count = random.nextInt(good ? 3 : 5);
                if (random.nextInt(50) == 0) {
                    count = 205;
                }
                int place = newPlace(Math.min(count, 8) * part.size(), part.alignment());
                put(i, at, 4, place | (long) count << 16);
                for (int k = 0; k < Math.min(count, 8); k++) {
                    lay(i, part, place + k * part.size(), good);
                }
            }
            case 9 -> {
                for (int k = 0; k < t.parts().size(); k++) {
                    lay(i, t.parts().get(k), at + t.offsets().get(k), good);
                }
            }
            case 10 -> {
                int which = random.nextInt(t.parts().size());
                put(i, at, 1, which);
                lay(i, t.parts().get(which), at + t.offsets().get(which), good);
            }
            case 11, 12 -> layHandle(i, t, at);
            default -> put(i, at, t.size(), random.nextLong());
        }
    }

    private void layText(int i, int at, boolean good) {
        int[][] groups = {{65}, {194, 128}, {223, 191}, {224, 160, 128}, {237, 159, 191}, {239, 191, 191},
            {240, 144, 128, 128}, {244, 143, 191, 191}, {237, 160, 128}, {192, 128}, {244, 144, 128, 128}};
        List<Integer> bytes = new ArrayList<>();
        for (int k = random.nextInt(4); k > 0; k--) {
            for (int b : groups[random.nextInt(good ? 8 : groups.length)]) {
                bytes.add(b);
            }
        }
        int count = bytes.size() + (good ? 0 : random.nextInt(6) == 0 ? random.nextInt(3) - 1 : 0);
        int place = newPlace(bytes.size(), 1);
        if (random.nextInt(20) == 0) {
            place = newPlace(0, 1);
            count = random.nextInt(130);
            for (int k = 0; k < count; k += 8) {
                put(i, place + k, 8, 0x6867666564636261L);
            }
        }
        put(i, at, 4, place | (long) Math.max(0, count) << 16);
        for (int k = 0; k < bytes.size(); k++) {
            put(i, place + k, 1, bytes.get(k));
        }
    }

    private void layHandle(int i, Model.T t, int at) {
        List<Integer> good = new ArrayList<>();
        m.instances.get(i).handles.forEach((h, handle) -> {
            if (handle.kind == t.n() && (t.kind() == 12 || handle.lender == null || random.nextInt(4) == 0)) {
                good.add(h);
            }
        });
        if (good.isEmpty() && random.nextInt(20) != 0) {
            next("make(" + t.n() + ")", x -> x.make(t.n()), () -> m.make(t.n()));
            m.instances.get(i).handles.keySet().forEach(good::add);
        }
        boolean known = !good.isEmpty() && random.nextInt(30) != 0;
        put(i, at, 1, known ? good.get(random.nextInt(good.size())) : random.nextInt(20));
    }

    private void askAll() {
        ask("passed()", x -> x.passed(), m::passed);
        ask("depth()", x -> x.depth(), m::depth);
        for (int k = -1; k <= 6; k++) {
            int level = k;
            ask("level(" + k + ")", x -> x.level(level), () -> m.level(level));
        }
        for (int k = -1; k <= 4; k++) {
            int kind = k;
            ask("resources(" + k + ", false)", x -> x.resources(kind, false), () -> m.resources(kind, false));
            ask("resources(" + k + ", true)", x -> x.resources(kind, true), () -> m.resources(kind, true));
            ask("latest(" + k + ")", x -> x.latest(kind), () -> m.latest(kind));
        }
        for (int i = 0; i < m.instances.size(); i++) {
            askInstance(i);
        }
        for (int t = 0; t < m.types.size(); t++) {
            askType(t);
        }
    }

    private void askInstance(int i) {
        for (int k = 0; k < 3; k++) {
            int what = k;
            ask("state(" + i + ", " + k + ")", x -> x.state(i, what), () -> m.state(i, what));
        }
        for (int k = 0; k < 256; k++) {
            int at = k;
            ask("read(" + i + ", " + k + ")", x -> x.read(i, at), () -> m.read(i, at));
        }
        for (int k = 4; k < 68; k++) {
            int h = k / 4;
            int what = k % 4;
            ask("handle(" + i + ", " + h + ", " + what + ")", x -> x.handle(i, h, what), () -> m.handle(i, h, what));
        }
    }

    private void askType(int t) {
        for (int k = 0; k < 10; k++) {
            int what = k;
            ask("layout(" + t + ", " + k + ")", x -> x.layout(t, what), () -> m.layout(t, what));
        }
        for (int k = 0; k < m.types.size(); k++) {
            int u = k;
            ask("fits(" + t + ", " + k + ")", x -> x.fits(t, u), () -> m.fits(t, u));
        }
    }

    private void ask(String call, ToLongFunction<HostedCalls> real, LongSupplier model) {
        questions.add(new Call(call, real, answer(model)));
    }
}
