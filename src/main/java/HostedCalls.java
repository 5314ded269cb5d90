import java.util.NoSuchElementException;

/**
 * Instances with memories of their own call one another by values of types.
 * What each call does stands in the document; the comments here say why it is done so.
 */
public final class HostedCalls {
    public static final int NONE = -1;

    private static final int MOST_TYPES = 32;
    private static final int MOST_PARTS = 6;
    private static final int MOST_DEPTH = 5;
    private static final int MOST_SIZE = 96;
    private static final int MOST_CHOICES = 200;
    private static final int MOST_INSTANCES = 6;
    private static final int MOST_FUNCTIONS = 12;
    private static final int MOST_HANDLES = 16;
    private static final int MOST_ITEMS = 200;
    private static final int MOST_WRITTEN = 8;
    private static final int RESOURCE_KINDS = 4;
    private static final int MEMORY_END = 256;
    private static final int HEAP_START = 128;

    private static final int FLAG = 0;
    private static final int LETTER = 5;
    private static final int TEXT = 6;
    private static final int CHOICE = 7;
    private static final int LIST = 8;
    private static final int RECORD = 9;
    private static final int VARIANT = 10;
    private static final int OWN = 11;
    private static final int BORROW = 12;

    /** Per kind; those of a record and a variant come from their parts. */
    private static final int[] SIZES = {1, 1, 2, 4, 8, 4, 4, 1, 4, 0, 0, 1, 1};
    private static final int[] ALIGNMENTS = {1, 1, 2, 4, 8, 4, 2, 1, 2, 0, 0, 1, 1};

    private static final int READY = 0;
    private static final int RUNNING = 1;
    private static final int POISONED = 2;
    private static final int CLOSED = 3;

    private static final int OUTSIDE_MEMORY = 1;
    private static final int NO_SUCH_CASE = 2;
    private static final int NO_LETTER = 3;
    private static final int NO_TEXT = 4;
    private static final int NOT_ALIGNED = 5;
    private static final int NO_HANDLE = 6;
    private static final int OTHER_RESOURCE_KIND = 7;
    private static final int NOT_OWNED = 8;
    private static final int HAS_LOANS = 9;
    private static final int TOO_MANY_ITEMS = 10;
    private static final int NO_ROOM = 11;
    private static final int NO_HANDLE_LEFT = 12;
    private static final int MADE_BY_ITSELF = 13;
    private static final int RUNS_ALREADY = 14;

    private final Type[] types = new Type[MOST_TYPES];
    private int typeCount = 0;
    private final Type[] draft = new Type[MOST_PARTS];
    private int draftCount = 0;
    private final Instance[] instances = new Instance[MOST_INSTANCES];
    private int instanceCount = 0;
    private final Function[] functions = new Function[MOST_FUNCTIONS];
    private int functionCount = 0;

    /** The stack, a row per level; an instance is on it once at most, so it has no more levels than there are instances. */
    private final int[] stackInstances = new int[MOST_INSTANCES];
    private final int[] stackFunctions = new int[MOST_INSTANCES];
    private final int[] stackPlaces = new int[MOST_INSTANCES];
    private int stackCount = 0;

    private int resourcesMade = 0;
    private final int[] living = new int[RESOURCE_KINDS];
    private final int[] destroyed = new int[RESOURCE_KINDS];

    private final Items items = new Items();
    private final Trap latestTrap = new Trap();
    private int latestPoisoned = NONE;

    public HostedCalls() {
    }

    public int part(int t) throws IllegalArgumentException, IllegalStateException {
        if (!isType(t)) {
            throw new IllegalArgumentException("no such type");
        }
        if (draftCount >= MOST_PARTS) {
            throw new IllegalStateException("the draft is full");
        }
        draft[draftCount] = types[t];
        draftCount++;
        return draftCount;
    }

    public int type(int kind, int n) throws IllegalArgumentException, IllegalStateException {
        if (!isKind(kind) || !hasPartsOf(kind) || !isNumberOf(kind, n)) {
            throw new IllegalArgumentException("no such type can be made");
        }
        Type made = new Type(kind, n, draft, draftCount);
        if (made.depth > MOST_DEPTH || made.size > MOST_SIZE) {
            throw new IllegalArgumentException("too deep or too large");
        }
        if (typeCount >= MOST_TYPES) {
            throw new IllegalStateException("there are all types already");
        }
        types[typeCount] = made;
        typeCount++;
        draftCount = 0;
        return typeCount - 1;
    }

    public int layout(int t, int what) throws IllegalArgumentException, IndexOutOfBoundsException {
        if (!isType(t)) {
            throw new IllegalArgumentException("no such type");
        }
        Type asked = types[t];
        if (what < 0 || what >= 5 + asked.partCount) {
            throw new IndexOutOfBoundsException("no such what");
        }
        switch (what) {
            case 0:
                return asked.kind;
            case 1:
                return asked.size;
            case 2:
                return asked.alignment;
            case 3:
                return asked.depth;
            case 4:
                return asked.partCount;
            default:
                return asked.offsets[what - 5];
        }
    }

    public int fits(int t, int u) throws IllegalArgumentException {
        if (!isType(t) || !isType(u)) {
            throw new IllegalArgumentException("no such type");
        }
        return firstMisfit(types[t], types[u]);
    }

    public int instance() throws IllegalStateException {
        if (instanceCount >= MOST_INSTANCES) {
            throw new IllegalStateException("there are all instances already");
        }
        instances[instanceCount] = new Instance();
        instanceCount++;
        return instanceCount - 1;
    }

    public int function(int i, int argument, int result)
            throws IllegalArgumentException, UnsupportedOperationException, IllegalStateException {
        if (!isInstance(i) || !isType(argument) || !isType(result)) {
            throw new IllegalArgumentException("no such instance or type");
        }
        if (types[result].hasBorrow) {
            throw new UnsupportedOperationException("a result lends nothing");
        }
        if (functionCount >= MOST_FUNCTIONS) {
            throw new IllegalStateException("there are all functions already");
        }
        functions[functionCount] = new Function(i, types[argument], types[result]);
        functionCount++;
        return functionCount - 1;
    }

    public void write(int i, int at, int n, long w) throws IllegalArgumentException, IndexOutOfBoundsException {
        if (!isInstance(i) || n < 1 || n > MOST_WRITTEN) {
            throw new IllegalArgumentException("no such instance, or not so many bytes");
        }
        if (!isPlace(at)) {
            throw new IndexOutOfBoundsException("no such place");
        }
        instances[i].storeBytes(at, n, w);
    }

    public int read(int i, int at) throws IllegalArgumentException, IndexOutOfBoundsException {
        if (!isInstance(i)) {
            throw new IllegalArgumentException("no such instance");
        }
        if (!isPlace(at)) {
            throw new IndexOutOfBoundsException("no such place");
        }
        return instances[i].memory[at];
    }

    public void enter(int i) throws IllegalArgumentException, IllegalStateException {
        if (!isInstance(i)) {
            throw new IllegalArgumentException("no such instance");
        }
        if (stackCount != 0 || instances[i].condition != READY) {
            throw new IllegalStateException("something runs, or the instance is not ready");
        }
        push(i, NONE, NONE);
    }

    public void leave() throws IllegalStateException {
        if (stackCount != 1) {
            throw new IllegalStateException("there is not just one on the stack");
        }
        pop();
    }

    public int make(int kind) throws IllegalStateException, IllegalArgumentException, UnsupportedOperationException {
        if (stackCount == 0) {
            throw new IllegalStateException("nothing runs");
        }
        if (!isResourceKind(kind)) {
            throw new IllegalArgumentException("no such resource kind");
        }
        Instance maker = instances[top()];
        int number = maker.lowestFreeHandle();
        if (number == NONE) {
            throw new UnsupportedOperationException("all handles are in use");
        }
        maker.handles[number - 1].use(resourcesMade, kind, Holding.OWNED, null);
        resourcesMade++;
        living[kind]++;
        return number;
    }

    public boolean drop(int handle)
            throws IllegalStateException, NoSuchElementException, UnsupportedOperationException {
        if (stackCount == 0) {
            throw new IllegalStateException("nothing runs");
        }
        Handle dropped = instances[top()].handleInUse(handle);
        if (dropped == null) {
            throw new NoSuchElementException("the handle is not in use");
        }
        if (dropped.loans > 0) {
            throw new UnsupportedOperationException("the handle has loans");
        }
        if (dropped.holding == Holding.OWNED) {
            destroy(dropped);
            return true;
        }
        dropped.endLoan();
        return false;
    }

    public int handle(int i, int handle, int what) throws IllegalArgumentException {
        if (!isInstance(i) || handle < 1 || handle > MOST_HANDLES || what < 0 || what > 3) {
            throw new IllegalArgumentException("no such instance, handle or what");
        }
        Handle asked = instances[i].handleInUse(handle);
        if (asked == null) {
            return NONE;
        }
        switch (what) {
            case 0:
                return asked.resource;
            case 1:
                return asked.kind;
            case 2:
                return asked.holding == Holding.OWNED ? 1 : 0;
            default:
                return asked.loans;
        }
    }

    public int call(int f, int t, int at) throws IllegalStateException, IllegalArgumentException,
            UnsupportedOperationException, NoSuchElementException {
        if (stackCount == 0) {
            throw new IllegalStateException("nothing runs");
        }
        if (f < 0 || f >= functionCount || !isType(t)) {
            throw new IllegalArgumentException("no such function or type");
        }
        Function called = functions[f];
        if (firstMisfit(types[t], called.argument) != 0) {
            throw new UnsupportedOperationException("the type does not fit the argument");
        }
        int condition = instances[called.owner].condition;
        if (condition == POISONED || condition == CLOSED) {
            throw new NoSuchElementException("the function's instance is poisoned or closed");
        }
        if (condition == RUNNING) {
            latestTrap.springs(RUNS_ALREADY, at);
            endAllCalls(top());
            return RUNS_ALREADY;
        }
        int place = passValue(types[t], called.argument, at, called.owner);
        if (place == NONE) {
            return latestTrap.code;
        }
        push(called.owner, f, place);
        return 0;
    }

    public int back(int t, int at)
            throws IllegalStateException, IllegalArgumentException, UnsupportedOperationException {
        if (stackCount < 2) {
            throw new IllegalStateException("there are not two on the stack");
        }
        if (!isType(t)) {
            throw new IllegalArgumentException("no such type");
        }
        Type result = functions[stackFunctions[stackCount - 1]].result;
        if (firstMisfit(types[t], result) != 0) {
            throw new UnsupportedOperationException("the type does not fit the result");
        }
        int place = passValue(types[t], result, at, stackInstances[stackCount - 2]);
        if (place == NONE) {
            return latestTrap.code;
        }
        // A result lends nothing, so all that the top has lent was lent for this call.
        instances[top()].endLoansToIt();
        pop();
        stackPlaces[stackCount - 1] = place;
        return 0;
    }

    public void trap() throws IllegalStateException {
        if (stackCount == 0) {
            throw new IllegalStateException("nothing runs");
        }
        latestTrap.springs(MADE_BY_ITSELF, 0);
        endAllCalls(top());
    }

    public int passed() {
        return stackCount == 0 ? NONE : stackPlaces[stackCount - 1];
    }

    public int depth() {
        return stackCount;
    }

    public int level(int k) {
        return k < 0 || k >= stackCount ? NONE : stackInstances[k];
    }

    public int state(int i, int what) throws IllegalArgumentException {
        if (!isInstance(i) || what < 0 || what > 2) {
            throw new IllegalArgumentException("no such instance or what");
        }
        switch (what) {
            case 0:
                return instances[i].condition;
            case 1:
                return instances[i].heap;
            default:
                return instances[i].handlesInUse();
        }
    }

    public int close(int i) throws IllegalArgumentException, IllegalStateException {
        if (!isInstance(i)) {
            throw new IllegalArgumentException("no such instance");
        }
        Instance closed = instances[i];
        if (closed.condition == RUNNING || closed.condition == CLOSED) {
            throw new IllegalStateException("it is running or closed");
        }
        closed.condition = CLOSED;
        int count = 0;
        for (int h = 0; h < MOST_HANDLES; h++) {
            if (closed.handles[h].holding == Holding.OWNED) {
                destroy(closed.handles[h]);
                count++;
            }
        }
        return count;
    }

    public int resources(int kind, boolean gone) throws IllegalArgumentException {
        if (!isResourceKind(kind)) {
            throw new IllegalArgumentException("no such resource kind");
        }
        return gone ? destroyed[kind] : living[kind];
    }

    public int latest(int what) throws IllegalArgumentException {
        switch (what) {
            case 0:
                return latestTrap.code;
            case 1:
                return latestTrap.place;
            case 2:
                return latestPoisoned;
            default:
                throw new IllegalArgumentException("no such what");
        }
    }

    private boolean isType(int t) {
        return t >= 0 && t < typeCount;
    }

    private boolean isInstance(int i) {
        return i >= 0 && i < instanceCount;
    }

    private static boolean isPlace(int at) {
        return at >= 0 && at < MEMORY_END;
    }

    private static boolean isKind(int kind) {
        return kind >= FLAG && kind <= BORROW;
    }

    private static boolean isResourceKind(int kind) {
        return kind >= 0 && kind < RESOURCE_KINDS;
    }

    private boolean hasPartsOf(int kind) {
        switch (kind) {
            case LIST:
                return draftCount == 1;
            case RECORD:
            case VARIANT:
                return draftCount >= 1;
            default:
                return draftCount == 0;
        }
    }

    private static boolean isNumberOf(int kind, int n) {
        switch (kind) {
            case CHOICE:
                return n >= 1 && n <= MOST_CHOICES;
            case OWN:
            case BORROW:
                return isResourceKind(n);
            default:
                return true;
        }
    }

    private static int firstMisfit(Type t, Type u) {
        int behind = numberBehind(t, u, 1);
        return behind < 0 ? -behind : 0;
    }

    /**
     * Goes through t, which has this number, and its parts: answers the number behind the last of them or,
     * negated, that of the first one that does not fit. A type is 5 deep at most, and so is this.
     */
    private static int numberBehind(Type t, Type u, int number) {
        if (!t.fitsWithoutParts(u)) {
            return -number;
        }
        int shared = Math.min(t.partCount, u.partCount);
        int next = number + 1;
        for (int k = 0; k < shared && next > 0; k++) {
            next = numberBehind(t.parts[k], u.parts[k], next);
        }
        return next;
    }

    /** The least multiple of an alignment (a power of two) that is not below a place. */
    private static int alignedFrom(int place, int alignment) {
        return (place + alignment - 1) & -alignment;
    }

    /** Callers have seen that the stack is not empty. */
    private int top() {
        return stackInstances[stackCount - 1];
    }

    private void push(int i, int function, int place) {
        stackInstances[stackCount] = i;
        stackFunctions[stackCount] = function;
        stackPlaces[stackCount] = place;
        stackCount++;
        instances[i].condition = RUNNING;
    }

    private void pop() {
        Instance ended = instances[top()];
        ended.condition = READY;
        ended.heap = HEAP_START;
        stackCount--;
    }

    private void destroy(Handle owned) {
        owned.holding = Holding.FREE;
        living[owned.kind]--;
        destroyed[owned.kind]++;
    }

    /** Passes a value of the top's: the place where it lies then, or NONE when there was a trap, which has done its work. */
    private int passValue(Type t, Type u, int at, int receiver) {
        Instance from = instances[top()];
        Instance to = instances[receiver];
        int place = NONE;
        items.count = 0;
        if (new Reader(from, items, latestTrap).readsItem(t, u, at)) {
            place = new Writer(from, to, items, latestTrap).placeWritten(u);
        }
        if (place == NONE) {
            boolean byReceiver = latestTrap.code == NO_ROOM || latestTrap.code == NO_HANDLE_LEFT;
            endAllCalls(byReceiver ? receiver : top());
            return NONE;
        }
        from.changeHoldings(Holding.TAKEN, Holding.FREE);
        to.changeHoldings(Holding.ARRIVING, Holding.OWNED);
        return place;
    }

    /** What the latest trap does; its code and place are known already. */
    private void endAllCalls(int poisoned) {
        latestPoisoned = poisoned;
        for (int k = 0; k < stackCount; k++) {
            instances[stackInstances[k]].condition = READY;
        }
        instances[poisoned].condition = POISONED;
        stackCount = 0;
        for (int i = 0; i < instanceCount; i++) {
            instances[i].heap = HEAP_START;
            instances[i].undoLoansAndPassing();
        }
    }

    /** TAKEN and ARRIVING are there only while a value is passed: a trap must be able to undo both. */
    private enum Holding { FREE, OWNED, LENT, TAKEN, ARRIVING }

    private static final class Type {
        final int kind;
        final int n;
        final int partCount;
        final Type[] parts;
        final int[] offsets;
        final int depth;
        final boolean hasBorrow;
        final int alignment;
        final int size;

        Type(int kind, int n, Type[] draft, int draftCount) {
            this.kind = kind;
            this.n = n;
            partCount = draftCount;
            parts = new Type[draftCount];
            offsets = new int[draftCount];
            int deepest = 0;
            int widest = 1;
            boolean borrows = kind == BORROW;
            for (int k = 0; k < draftCount; k++) {
                parts[k] = draft[k];
                deepest = Math.max(deepest, parts[k].depth);
                widest = Math.max(widest, parts[k].alignment);
                borrows = borrows || parts[k].hasBorrow;
            }
            depth = deepest + 1;
            hasBorrow = borrows;
            int end = 0;
            for (int k = 0; k < draftCount; k++) {
                offsets[k] = offsetBehind(end, kind, widest, parts[k].alignment);
                end = Math.max(end, offsets[k] + parts[k].size);
            }
            boolean laidByParts = kind == RECORD || kind == VARIANT;
            alignment = laidByParts ? widest : ALIGNMENTS[kind];
            size = laidByParts ? alignedFrom(end, widest) : SIZES[kind];
        }

        /** Where a part lies; that of a list lies elsewhere in the memory, at the start of a room of its own. */
        private static int offsetBehind(int end, int kind, int widest, int partAlignment) {
            switch (kind) {
                case RECORD:
                    return alignedFrom(end, partAlignment);
                case VARIANT:
                    return widest;
                default:
                    return 0;
            }
        }

        boolean fitsWithoutParts(Type u) {
            if (kind != u.kind) {
                return false;
            }
            switch (kind) {
                case CHOICE:
                    return n <= u.n;
                case OWN:
                case BORROW:
                    return n == u.n;
                case RECORD:
                    return partCount >= u.partCount;
                case VARIANT:
                    return partCount <= u.partCount;
                default:
                    return true;
            }
        }
    }

    private static final class Function {
        final int owner;
        final Type argument;
        final Type result;

        Function(int owner, Type argument, Type result) {
            this.owner = owner;
            this.argument = argument;
            this.result = result;
        }
    }

    private static final class Trap {
        int code = 0;
        int place = 0;

        /** Always false, so that a reader can tell a trap and its own failure in one. */
        boolean springs(int newCode, int newPlace) {
            code = newCode;
            place = newPlace;
            return false;
        }
    }

    private static final class Handle {
        int resource = NONE;
        int kind = 0;
        int loans = 0;
        Holding holding = Holding.FREE;
        /** The handle that this one is lent from, if it is LENT. */
        Handle lender = null;

        void use(int newResource, int newKind, Holding newHolding, Handle newLender) {
            resource = newResource;
            kind = newKind;
            holding = newHolding;
            lender = newLender;
            loans = 0;
        }

        void endLoan() {
            holding = Holding.FREE;
            if (lender != null) {
                lender.loans--;
            }
        }
    }

    private static final class Instance {
        final int[] memory = new int[MEMORY_END];
        /** Handle h stands at h - 1. */
        final Handle[] handles = new Handle[MOST_HANDLES];
        int heap = HEAP_START;
        int condition = READY;

        Instance() {
            for (int h = 0; h < MOST_HANDLES; h++) {
                handles[h] = new Handle();
            }
        }

        void storeBytes(int at, int n, long w) {
            for (int k = 0; k < n && isPlace(at + k); k++) {
                memory[at + k] = (int) (w >>> (8 * k)) & 255;
            }
        }

        /** What is TAKEN is no longer in use for what is read behind it. */
        Handle handleInUse(int number) {
            if (number < 1 || number > MOST_HANDLES) {
                return null;
            }
            Handle found = handles[number - 1];
            return found.holding == Holding.OWNED || found.holding == Holding.LENT ? found : null;
        }

        int lowestFreeHandle() {
            for (int h = 0; h < MOST_HANDLES; h++) {
                if (handles[h].holding == Holding.FREE) {
                    return h + 1;
                }
            }
            return NONE;
        }

        int handlesInUse() {
            int count = 0;
            for (int h = 0; h < MOST_HANDLES; h++) {
                if (handles[h].holding != Holding.FREE) {
                    count++;
                }
            }
            return count;
        }

        void endLoansToIt() {
            for (int h = 0; h < MOST_HANDLES; h++) {
                if (handles[h].holding == Holding.LENT) {
                    handles[h].endLoan();
                }
            }
        }

        void changeHoldings(Holding old, Holding changed) {
            for (int h = 0; h < MOST_HANDLES; h++) {
                if (handles[h].holding == old) {
                    handles[h].holding = changed;
                }
            }
        }

        void undoLoansAndPassing() {
            changeHoldings(Holding.LENT, Holding.FREE);
            changeHoldings(Holding.ARRIVING, Holding.FREE);
            changeHoldings(Holding.TAKEN, Holding.OWNED);
            for (int h = 0; h < MOST_HANDLES; h++) {
                handles[h].loans = 0;
            }
        }
    }

    /** What was read, item by item, so that it can be written in the same order. */
    private static final class Items {
        final int[] places = new int[MOST_ITEMS];
        /** The number itself, that of the case or handle, or the place of a text's bytes. */
        final long[] numbers = new long[MOST_ITEMS];
        /** How many bytes a text has, or values a list. */
        final int[] counts = new int[MOST_ITEMS];
        int count = 0;
    }

    /** Reads a value with all its checks. Its methods answer false when there was a trap. */
    private static final class Reader {
        private final Instance sender;
        private final Items items;
        private final Trap trap;
        /** What readsBytes read last. */
        private long bytes = 0;

        Reader(Instance sender, Items items, Trap trap) {
            this.sender = sender;
            this.items = items;
            this.trap = trap;
        }

        /** Calls itself for the parts; a type is 5 deep at most, and so is this. */
        private boolean readsItem(Type t, Type u, int at) {
            if (items.count >= MOST_ITEMS) {
                return trap.springs(TOO_MANY_ITEMS, at);
            }
            if ((at & (t.alignment - 1)) != 0) {
                return trap.springs(NOT_ALIGNED, at);
            }
            int item = items.count;
            items.count++;
            items.places[item] = at;
            switch (t.kind) {
                case TEXT:
                    return readsPlaceAndCount(item, at) && readsText(item);
                case LIST:
                    return readsPlaceAndCount(item, at) && readsList(item, t.parts[0], u.parts[0]);
                case RECORD:
                    return readsRecord(t, u, at);
                case VARIANT:
                    return readsVariant(item, t, u, at);
                case OWN:
                case BORROW:
                    return readsHandle(item, t, at);
                default:
                    return readsNumber(item, t, at);
            }
        }

        private int byteAt(int place) {
            if (!isPlace(place)) {
                trap.springs(OUTSIDE_MEMORY, place);
                return NONE;
            }
            return sender.memory[place];
        }

        private boolean readsBytes(int at, int n) {
            bytes = 0;
            for (int k = 0; k < n; k++) {
                int b = byteAt(at + k);
                if (b == NONE) {
                    return false;
                }
                bytes |= (long) b << (8 * k);
            }
            return true;
        }

        private boolean readsNumber(int item, Type t, int at) {
            if (!readsBytes(at, t.size)) {
                return false;
            }
            if (t.kind == FLAG && bytes > 1 || t.kind == CHOICE && bytes >= t.n) {
                return trap.springs(NO_SUCH_CASE, at);
            }
            if (t.kind == LETTER && (bytes > 1114111 || bytes > 55295 && bytes < 57344)) {
                return trap.springs(NO_LETTER, at);
            }
            items.numbers[item] = bytes;
            return true;
        }

        /** Two bytes each, so that the four of them are one number of both. */
        private boolean readsPlaceAndCount(int item, int at) {
            if (!readsBytes(at, 4)) {
                return false;
            }
            items.numbers[item] = bytes & 65535;
            items.counts[item] = (int) (bytes >>> 16);
            return true;
        }

        private boolean readsText(int item) {
            int place = (int) items.numbers[item];
            int end = place + items.counts[item];
            while (place < end) {
                int length = groupLength(place, end);
                if (length <= 0) {
                    return false;
                }
                place += length;
            }
            return true;
        }

        /** How many bytes the group has that begins at a place; NONE when there was a trap. */
        private int groupLength(int place, int end) {
            int first = byteAt(place);
            if (first == NONE) {
                return NONE;
            }
            int length = lengthBehind(first);
            for (int k = 1; k < length; k++) {
                int b = place + k < end ? byteAt(place + k) : 0;
                if (b == NONE) {
                    return NONE;
                }
                // A text that ends within a group counts as a byte 0 there, which no group goes on with.
                if (b < lowestBehind(first, k) || b > highestBehind(first, k)) {
                    length = NONE;
                }
            }
            if (length == NONE) {
                trap.springs(NO_TEXT, place);
            }
            return length;
        }

        private static int lengthBehind(int first) {
            if (first < 128) {
                return 1;
            }
            if (first < 194 || first > 244) {
                return NONE;
            }
            return first < 224 ? 2 : first < 240 ? 3 : 4;
        }

        private static int lowestBehind(int first, int k) {
            if (k == 1 && first == 224) {
                return 160;
            }
            return k == 1 && first == 240 ? 144 : 128;
        }

        private static int highestBehind(int first, int k) {
            if (k == 1 && first == 237) {
                return 159;
            }
            return k == 1 && first == 244 ? 143 : 191;
        }

        private boolean readsList(int item, Type part, Type fitted) {
            int place = (int) items.numbers[item];
            for (int k = 0; k < items.counts[item]; k++) {
                if (!readsItem(part, fitted, place + k * part.size)) {
                    return false;
                }
            }
            return true;
        }

        /** Of t, which fits u, the parts that u has not are not looked at. */
        private boolean readsRecord(Type t, Type u, int at) {
            for (int k = 0; k < u.partCount; k++) {
                if (!readsItem(t.parts[k], u.parts[k], at + t.offsets[k])) {
                    return false;
                }
            }
            return true;
        }

        private boolean readsVariant(int item, Type t, Type u, int at) {
            if (!readsBytes(at, 1)) {
                return false;
            }
            int which = (int) bytes;
            if (which >= t.partCount) {
                return trap.springs(NO_SUCH_CASE, at);
            }
            items.numbers[item] = which;
            return readsItem(t.parts[which], u.parts[which], at + t.offsets[which]);
        }

        private boolean readsHandle(int item, Type t, int at) {
            if (!readsBytes(at, 1)) {
                return false;
            }
            Handle found = sender.handleInUse((int) bytes);
            if (found == null) {
                return trap.springs(NO_HANDLE, at);
            }
            if (found.kind != t.n) {
                return trap.springs(OTHER_RESOURCE_KIND, at);
            }
            items.numbers[item] = bytes;
            if (t.kind == BORROW) {
                found.loans++;
                return true;
            }
            if (found.holding != Holding.OWNED) {
                return trap.springs(NOT_OWNED, at);
            }
            if (found.loans > 0) {
                return trap.springs(HAS_LOANS, at);
            }
            found.holding = Holding.TAKEN;
            return true;
        }
    }

    /** Lays the items that were read out anew. Its methods answer false, or NONE for a place, when there was a trap. */
    private static final class Writer {
        private final Instance sender;
        private final Instance receiver;
        private final Items items;
        private final Trap trap;
        private int next = 0;

        Writer(Instance sender, Instance receiver, Items items, Trap trap) {
            this.sender = sender;
            this.receiver = receiver;
            this.items = items;
            this.trap = trap;
        }

        int placeWritten(Type u) {
            int place = makeRoom(u.size, u.alignment);
            return place != NONE && writesItem(u, place) ? place : NONE;
        }

        private int makeRoom(int size, int alignment) {
            int place = alignedFrom(receiver.heap, alignment);
            if (place + size > MEMORY_END) {
                trap.springs(NO_ROOM, place);
                return NONE;
            }
            for (int k = place; k < place + size; k++) {
                receiver.memory[k] = 0;
            }
            receiver.heap = place + size;
            return place;
        }

        /** Calls itself for the parts in the order of the reader, so the next item is always the one that belongs here. */
        private boolean writesItem(Type u, int at) {
            int item = next;
            next++;
            switch (u.kind) {
                case TEXT:
                    return writesText(item, at);
                case LIST:
                    return writesList(item, u.parts[0], at);
                case RECORD:
                    return writesRecord(u, at);
                case VARIANT:
                    return writesVariant(item, u, at);
                case OWN:
                case BORROW:
                    return writesHandle(item, u, at);
                default:
                    receiver.storeBytes(at, u.size, items.numbers[item]);
                    return true;
            }
        }

        /** The other way round of what the reader does with these four bytes. */
        private static long placeAndCount(int place, int count) {
            return (long) count << 16 | place;
        }

        private boolean writesText(int item, int at) {
            int count = items.counts[item];
            int place = makeRoom(count, 1);
            if (place == NONE) {
                return false;
            }
            receiver.storeBytes(at, 4, placeAndCount(place, count));
            int source = (int) items.numbers[item];
            for (int k = 0; k < count; k++) {
                receiver.memory[place + k] = sender.memory[source + k];
            }
            return true;
        }

        private boolean writesList(int item, Type part, int at) {
            int count = items.counts[item];
            int place = makeRoom(count * part.size, part.alignment);
            if (place == NONE) {
                return false;
            }
            receiver.storeBytes(at, 4, placeAndCount(place, count));
            for (int k = 0; k < count; k++) {
                if (!writesItem(part, place + k * part.size)) {
                    return false;
                }
            }
            return true;
        }

        private boolean writesRecord(Type u, int at) {
            for (int k = 0; k < u.partCount; k++) {
                if (!writesItem(u.parts[k], at + u.offsets[k])) {
                    return false;
                }
            }
            return true;
        }

        private boolean writesVariant(int item, Type u, int at) {
            int which = (int) items.numbers[item];
            receiver.storeBytes(at, 1, which);
            return writesItem(u.parts[which], at + u.offsets[which]);
        }

        private boolean writesHandle(int item, Type u, int at) {
            int number = receiver.lowestFreeHandle();
            if (number == NONE) {
                return trap.springs(NO_HANDLE_LEFT, items.places[item]);
            }
            Handle given = sender.handles[(int) items.numbers[item] - 1];
            Handle got = receiver.handles[number - 1];
            if (u.kind == OWN) {
                got.use(given.resource, given.kind, Holding.ARRIVING, null);
            } else {
                got.use(given.resource, given.kind, Holding.LENT, given);
            }
            receiver.storeBytes(at, 1, number);
            return true;
        }
    }
}
