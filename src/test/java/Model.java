import java.util.ArrayList;
import java.util.HashMap;
import java.util.List;
import java.util.Map;
import java.util.NoSuchElementException;
import java.util.TreeMap;

/**
 * The document once more, written for plainness and in another way than the class: a value is read into a tree,
 * a trap is an exception, loans are counted when they are asked for, and a trap lays the owned handles back from a copy.
 */
final class Model {
    static final class Trap extends RuntimeException {
        private static final long serialVersionUID = 1;
        final int code;
        final int place;

        Trap(int code, int place) {
            this.code = code;
            this.place = place;
        }
    }

    record T(int kind, int n, List<T> parts, List<Integer> offsets, int size, int alignment, int depth) { }

    record F(int instance, T argument, T result) { }

    record Level(int instance, F function) { }

    /** lender is null for one that is owned. */
    static final class H {
        final int resource;
        final int kind;
        final H lender;

        H(int resource, int kind, H lender) {
            this.resource = resource;
            this.kind = kind;
            this.lender = lender;
        }
    }

    static final class I {
        final int[] memory = new int[256];
        Map<Integer, H> handles = new TreeMap<>();
        int heap = 128;
        int state = 0;
    }

    /** A value that was read. */
    static final class Node {
        int place;
        long number;
        H handle;
        int[] text;
        final List<Node> inside = new ArrayList<>();
    }

    final List<T> types = new ArrayList<>();
    List<T> draft = new ArrayList<>();
    final List<I> instances = new ArrayList<>();
    final List<F> functions = new ArrayList<>();
    final List<Level> stack = new ArrayList<>();
    final Map<Integer, Integer> passedTo = new HashMap<>();
    final List<Integer> made = new ArrayList<>();
    final List<Integer> gone = new ArrayList<>();
    int[] latest = {0, 0, -1};

    private List<H> lentNow = new ArrayList<>();
    private List<H> takenNow = new ArrayList<>();
    private int items;

    private static <E> E in(List<E> list, int k) {
        if (k < 0 || k >= list.size()) {
            throw new IllegalArgumentException();
        }
        return list.get(k);
    }

    private static void argument(boolean good) {
        if (!good) {
            throw new IllegalArgumentException();
        }
    }

    private static void state(boolean good) {
        if (!good) {
            throw new IllegalStateException();
        }
    }

    private static void supported(boolean good) {
        if (!good) {
            throw new UnsupportedOperationException();
        }
    }

    private static void bounds(boolean good) {
        if (!good) {
            throw new IndexOutOfBoundsException();
        }
    }

    int part(int t) {
        T part = in(types, t);
        state(draft.size() < 6);
        draft.add(part);
        return draft.size();
    }

    int type(int kind, int n) {
        argument(kind >= 0 && kind <= 12);
        argument(kind == 8 ? draft.size() == 1 : kind == 9 || kind == 10 ? !draft.isEmpty() : draft.isEmpty());
        argument(kind != 7 || n >= 1 && n <= 200);
        argument(kind < 11 || n >= 0 && n <= 3);
        T made = laidOut(kind, n);
        argument(made.depth <= 5 && made.size <= 96);
        state(types.size() < 32);
        types.add(made);
        draft = new ArrayList<>();
        return types.size() - 1;
    }

    private T laidOut(int kind, int n) {
        int depth = 1;
        int alignment = 1;
        for (T part : draft) {
            depth = Math.max(depth, 1 + part.depth);
            alignment = Math.max(alignment, part.alignment);
        }
        List<Integer> offsets = new ArrayList<>();
        if (kind < 9 || kind > 10) {
            if (kind == 8) {
                offsets.add(0);
            }
            int size = switch (kind) { case 2 -> 2; case 3, 5, 6, 8 -> 4; case 4 -> 8; default -> 1; };
            return new T(kind, n, draft, offsets, size, kind == 6 || kind == 8 ? 2 : size, depth);
        }
        int end = 0;
        for (T part : draft) {
            int offset = kind == 10 ? alignment : end;
            while (offset % part.alignment != 0) {
                offset++;
            }
            offsets.add(offset);
            end = Math.max(end, offset + part.size);
        }
        while (end % alignment != 0) {
            end++;
        }
        return new T(kind, n, draft, offsets, end, alignment, depth);
    }

    int layout(int t, int what) {
        T asked = in(types, t);
        List<Integer> told = new ArrayList<>(List.of(asked.kind, asked.size, asked.alignment, asked.depth,
                asked.parts.size()));
        told.addAll(asked.offsets);
        bounds(what >= 0 && what < told.size());
        return told.get(what);
    }

    int fits(int t, int u) {
        T first = in(types, t);
        T second = in(types, u);
        List<T[]> walk = new ArrayList<>();
        goThrough(first, second, walk);
        for (int k = 0; k < walk.size(); k++) {
            if (!alone(walk.get(k)[0], walk.get(k)[1])) {
                return k + 1;
            }
        }
        return 0;
    }

    private static void goThrough(T t, T u, List<T[]> walk) {
        walk.add(new T[] {t, u});
        if (alone(t, u)) {
            for (int k = 0; k < t.parts.size() && k < u.parts.size(); k++) {
                goThrough(t.parts.get(k), u.parts.get(k), walk);
            }
        }
    }

    private static boolean alone(T t, T u) {
        return t.kind == u.kind
                && (t.kind != 7 || t.n <= u.n)
                && (t.kind < 11 || t.n == u.n)
                && (t.kind != 9 || t.parts.size() >= u.parts.size())
                && (t.kind != 10 || t.parts.size() <= u.parts.size());
    }

    private static boolean fit(T t, T u) {
        if (!alone(t, u)) {
            return false;
        }
        for (int k = 0; k < t.parts.size() && k < u.parts.size(); k++) {
            if (!fit(t.parts.get(k), u.parts.get(k))) {
                return false;
            }
        }
        return true;
    }

    int instance() {
        state(instances.size() < 6);
        instances.add(new I());
        return instances.size() - 1;
    }

    int function(int i, int argument, int result) {
        in(instances, i);
        F made = new F(i, in(types, argument), in(types, result));
        supported(!lends(made.result));
        state(functions.size() < 12);
        functions.add(made);
        return functions.size() - 1;
    }

    private static boolean lends(T t) {
        return t.kind == 12 || t.parts.stream().anyMatch(Model::lends);
    }

    void write(int i, int at, int n, long w) {
        I written = in(instances, i);
        argument(n >= 1 && n <= 8);
        bounds(at >= 0 && at <= 255);
        for (int k = 0; k < n && at + k <= 255; k++) {
            written.memory[at + k] = (int) ((w >> (8 * k)) & 255);
        }
    }

    int read(int i, int at) {
        I asked = in(instances, i);
        bounds(at >= 0 && at <= 255);
        return asked.memory[at];
    }

    void enter(int i) {
        I entered = in(instances, i);
        state(stack.isEmpty() && entered.state == 0);
        entered.state = 1;
        stack.add(new Level(i, null));
    }

    void leave() {
        state(stack.size() == 1);
        end();
    }

    private int top() {
        return stack.get(stack.size() - 1).instance;
    }

    private void end() {
        I ended = instances.get(top());
        ended.state = 0;
        ended.heap = 128;
        passedTo.remove(top());
        stack.remove(stack.size() - 1);
    }

    private static int lowest(I of) {
        int h = 1;
        while (of.handles.containsKey(h)) {
            h++;
        }
        return h;
    }

    int make(int kind) {
        state(!stack.isEmpty());
        argument(kind >= 0 && kind <= 3);
        I maker = instances.get(top());
        supported(maker.handles.size() < 16);
        int h = lowest(maker);
        maker.handles.put(h, new H(made.size(), kind, null));
        made.add(kind);
        return h;
    }

    boolean drop(int h) {
        state(!stack.isEmpty());
        I dropper = instances.get(top());
        H dropped = dropper.handles.get(h);
        if (dropped == null) {
            throw new NoSuchElementException();
        }
        supported(loans(dropped) == 0);
        dropper.handles.remove(h);
        if (dropped.lender == null) {
            gone.add(dropped.kind);
        }
        return dropped.lender == null;
    }

    private int loans(H of) {
        int count = 0;
        for (I i : instances) {
            for (H h : i.handles.values()) {
                count += h.lender == of ? 1 : 0;
            }
        }
        for (H lender : lentNow) {
            count += lender == of ? 1 : 0;
        }
        return count;
    }

    int handle(int i, int h, int what) {
        I asked = in(instances, i);
        argument(h >= 1 && h <= 16 && what >= 0 && what <= 3);
        H found = asked.handles.get(h);
        if (found == null) {
            return -1;
        }
        return new int[] {found.resource, found.kind, found.lender == null ? 1 : 0, loans(found)}[what];
    }

    int call(int f, int t, int at) {
        state(!stack.isEmpty());
        F called = in(functions, f);
        T given = in(types, t);
        supported(fit(given, called.argument));
        I callee = instances.get(called.instance);
        if (callee.state >= 2) {
            throw new NoSuchElementException();
        }
        int place;
        Map<I, Map<Integer, H>> before = owned();
        try {
            if (callee.state == 1) {
                throw new Trap(14, at);
            }
            place = pass(instances.get(top()), callee, given, called.argument, at);
        } catch (Trap trap) {
            return trapped(trap, called.instance, before);
        }
        callee.state = 1;
        stack.add(new Level(called.instance, called));
        passedTo.put(called.instance, place);
        return 0;
    }

    int back(int t, int at) {
        state(stack.size() >= 2);
        T given = in(types, t);
        T result = stack.get(stack.size() - 1).function.result;
        supported(fit(given, result));
        int below = stack.get(stack.size() - 2).instance;
        I ended = instances.get(top());
        int place;
        Map<I, Map<Integer, H>> before = owned();
        try {
            place = pass(ended, instances.get(below), given, result, at);
        } catch (Trap trap) {
            return trapped(trap, below, before);
        }
        ended.handles.values().removeIf(h -> h.lender != null);
        end();
        passedTo.put(below, place);
        return 0;
    }

    void trap() {
        state(!stack.isEmpty());
        trapped(new Trap(13, 0), -1, owned());
    }

    private Map<I, Map<Integer, H>> owned() {
        Map<I, Map<Integer, H>> copy = new HashMap<>();
        for (I i : instances) {
            copy.put(i, new TreeMap<>(i.handles));
            copy.get(i).values().removeIf(h -> h.lender != null);
        }
        return copy;
    }

    private int trapped(Trap trap, int receiver, Map<I, Map<Integer, H>> before) {
        int poisoned = trap.code == 11 || trap.code == 12 ? receiver : top();
        for (Level level : stack) {
            instances.get(level.instance).state = 0;
        }
        stack.clear();
        passedTo.clear();
        for (I i : instances) {
            i.heap = 128;
            i.handles = before.get(i);
        }
        instances.get(poisoned).state = 2;
        latest = new int[] {trap.code, trap.place, poisoned};
        return trap.code;
    }

    private int pass(I from, I to, T t, T u, int at) {
        items = 0;
        lentNow = new ArrayList<>();
        takenNow = new ArrayList<>();
        try {
            Node value = item(from, t, u, at);
            int place = room(to, u.size, u.alignment);
            lay(to, u, place, value);
            from.handles.values().removeIf(takenNow::contains);
            return place;
        } finally {
            lentNow = new ArrayList<>();
        }
    }

    private static void unless(boolean good, int code, int place) {
        if (!good) {
            throw new Trap(code, place);
        }
    }

    private static int oneByte(I from, int at) {
        unless(at >= 0 && at <= 255, 1, at);
        return from.memory[at];
    }

    private static long number(I from, int at, int n) {
        long number = 0;
        long weight = 1;
        for (int k = 0; k < n; k++) {
            number += oneByte(from, at + k) * weight;
            weight *= 256;
        }
        return number;
    }

    private Node item(I from, T t, T u, int at) {
        items++;
        unless(items <= 200, 10, at);
        unless(Math.floorMod(at, t.alignment) == 0, 5, at);
        Node node = new Node();
        node.place = at;
        switch (t.kind) {
            case 6 -> node.text = text(from, at);
            case 8 -> {
                int place = (int) number(from, at, 2);
                int count = (int) number(from, at + 2, 2);
                for (int k = 0; k < count; k++) {
                    node.inside.add(item(from, t.parts.get(0), u.parts.get(0), place + k * t.parts.get(0).size));
                }
            }
            case 9 -> {
                for (int k = 0; k < u.parts.size(); k++) {
                    node.inside.add(item(from, t.parts.get(k), u.parts.get(k), at + t.offsets.get(k)));
                }
            }
            case 10 -> {
                int which = oneByte(from, at);
                unless(which < t.parts.size(), 2, at);
                node.number = which;
                node.inside.add(item(from, t.parts.get(which), u.parts.get(which), at + t.offsets.get(which)));
            }
            case 11, 12 -> node.handle = handleRead(from, t, at);
            default -> {
                node.number = number(from, at, t.size);
                unless(t.kind != 0 || node.number <= 1, 2, at);
                unless(t.kind != 7 || node.number < t.n, 2, at);
                int letter = (int) node.number;
                unless(t.kind != 5 || letter >= 0 && letter <= 55295 || letter >= 57344 && letter <= 1114111, 3, at);
            }
        }
        return node;
    }

    private H handleRead(I from, T t, int at) {
        H found = from.handles.get(oneByte(from, at));
        unless(found != null && !takenNow.contains(found), 6, at);
        unless(found.kind == t.n, 7, at);
        if (t.kind == 11) {
            unless(found.lender == null, 8, at);
            unless(loans(found) == 0, 9, at);
            takenNow.add(found);
        } else {
            lentNow.add(found);
        }
        return found;
    }

    private static int[] text(I from, int at) {
        int place = (int) number(from, at, 2);
        int count = (int) number(from, at + 2, 2);
        int[] text = new int[Math.min(count, 256)];
        int group = place;
        int missing = 0;
        int least = 0;
        int most = 0;
        for (int k = 0; k < count; k++) {
            int b = oneByte(from, place + k);
            text[k] = b;
            if (missing > 0) {
                unless(b >= least && b <= most, 4, group);
                missing--;
                least = 128;
                most = 191;
                continue;
            }
            group = place + k;
            unless(b < 128 || b >= 194 && b <= 244, 4, group);
            missing = b < 128 ? 0 : b <= 223 ? 1 : b <= 239 ? 2 : 3;
            least = b == 224 ? 160 : b == 240 ? 144 : 128;
            most = b == 237 ? 159 : b == 244 ? 143 : 191;
        }
        unless(missing == 0, 4, group);
        return text;
    }

    private static int room(I to, int size, int alignment) {
        int place = to.heap;
        while (place % alignment != 0) {
            place++;
        }
        unless(place + size <= 256, 11, place);
        for (int k = 0; k < size; k++) {
            to.memory[place + k] = 0;
        }
        to.heap = place + size;
        return place;
    }

    private static void put(I to, int at, int n, long number) {
        for (int k = 0; k < n; k++) {
            to.memory[at + k] = (int) (number >> (8 * k)) & 255;
        }
    }

    private void lay(I to, T u, int at, Node node) {
        switch (u.kind) {
            case 6 -> {
                int place = room(to, node.text.length, 1);
                put(to, at, 2, place);
                put(to, at + 2, 2, node.text.length);
                System.arraycopy(node.text, 0, to.memory, place, node.text.length);
            }
            case 8 -> {
                T part = u.parts.get(0);
                int place = room(to, node.inside.size() * part.size, part.alignment);
                put(to, at, 2, place);
                put(to, at + 2, 2, node.inside.size());
                for (int k = 0; k < node.inside.size(); k++) {
                    lay(to, part, place + k * part.size, node.inside.get(k));
                }
            }
            case 9 -> {
                for (int k = 0; k < node.inside.size(); k++) {
                    lay(to, u.parts.get(k), at + u.offsets.get(k), node.inside.get(k));
                }
            }
            case 10 -> {
                put(to, at, 1, node.number);
                lay(to, u.parts.get((int) node.number), at + u.offsets.get((int) node.number), node.inside.get(0));
            }
            case 11, 12 -> {
                unless(to.handles.size() < 16, 12, node.place);
                int h = lowest(to);
                to.handles.put(h, new H(node.handle.resource, node.handle.kind, u.kind == 11 ? null : node.handle));
                put(to, at, 1, h);
            }
            default -> put(to, at, u.size, node.number);
        }
    }

    int passed() {
        return stack.isEmpty() ? -1 : passedTo.getOrDefault(top(), -1);
    }

    int depth() {
        return stack.size();
    }

    int level(int k) {
        return k >= 0 && k < stack.size() ? stack.get(k).instance : -1;
    }

    int state(int i, int what) {
        I asked = in(instances, i);
        argument(what >= 0 && what <= 2);
        return new int[] {asked.state, asked.heap, asked.handles.size()}[what];
    }

    int close(int i) {
        I closed = in(instances, i);
        state(closed.state == 0 || closed.state == 2);
        closed.state = 3;
        int count = closed.handles.size();
        for (H h : closed.handles.values()) {
            gone.add(h.kind);
        }
        closed.handles.clear();
        return count;
    }

    int resources(int kind, boolean destroyed) {
        argument(kind >= 0 && kind <= 3);
        int ended = (int) gone.stream().filter(k -> k == kind).count();
        return destroyed ? ended : (int) made.stream().filter(k -> k == kind).count() - ended;
    }

    int latest(int what) {
        argument(what >= 0 && what <= 2);
        return latest[what];
    }
}
