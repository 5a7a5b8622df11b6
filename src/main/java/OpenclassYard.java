import java.util.Arrays;
import java.util.NoSuchElementException;

/** A language whose classes are open while it runs; ../shared/DOC.md says what each method promises. */
public final class OpenclassYard {
    private static final int MOST_NODES = 240;
    private static final int MOST_STEPS = 5000;
    private static final int SAME_STEPS = 2000;
    private static final int MESSAGES = 20;
    private static final int CONSTANTS = 12;
    private static final int LOCALS = 6;
    private static final int FILES = 4;

    private final Node[] nodes;
    private int nodeCount;
    private int file;
    private boolean isKeeping;
    private final Run last;
    private final Run kept;
    private final Run unkept;

    public OpenclassYard() {
        nodes = new Node[MOST_NODES];
        nodeCount = 0;
        file = 0;
        isKeeping = true;
        last = Run.fresh();
        kept = Run.fresh();
        unkept = Run.fresh();
    }

    public int number(int value) throws IllegalStateException {
        return addNode(Kind.NUMBER, value, 0, new int[] {});
    }

    public int message(int message) throws IllegalArgumentException, IllegalStateException {
        needBelow(message, MESSAGES);
        return addNode(Kind.MESSAGE, message, 0, new int[] {});
    }

    public int plain(char kind) throws IllegalArgumentException, IllegalStateException {
        needKind(kind == 'N' || kind == 'T' || kind == 'F' || kind == 'S');
        return addNode(Kind.PLAIN, kind, 0, new int[] {});
    }

    public int local(int local) throws IllegalArgumentException, IllegalStateException {
        needBelow(local, LOCALS);
        return addNode(Kind.LOCAL, local, 0, new int[] {});
    }

    public int setLocal(int local, int value) throws IllegalArgumentException, IndexOutOfBoundsException, UnsupportedOperationException, IllegalStateException {
        needBelow(local, LOCALS);
        return addNode(Kind.SET_LOCAL, local, 'l', new int[] {value});
    }

    public int field(int field) throws IllegalArgumentException, IllegalStateException {
        needBelow(field, LOCALS);
        return addNode(Kind.FIELD, field, 0, new int[] {});
    }

    public int setField(int field, int value) throws IllegalArgumentException, IndexOutOfBoundsException, UnsupportedOperationException, IllegalStateException {
        needBelow(field, LOCALS);
        return addNode(Kind.SET_FIELD, field, 'f', new int[] {value});
    }

    public int constant(int constant) throws IllegalArgumentException, IllegalStateException {
        needBelow(constant, CONSTANTS);
        return addNode(Kind.CONSTANT, constant, 0, new int[] {});
    }

    public int setConstant(int constant, int value) throws IllegalArgumentException, IndexOutOfBoundsException, UnsupportedOperationException, IllegalStateException {
        needBelow(constant, CONSTANTS);
        return addNode(Kind.SET_CONSTANT, constant, 'c', new int[] {value});
    }

    public int orSet(char kind, int name, int value) throws IllegalArgumentException, IndexOutOfBoundsException, UnsupportedOperationException, IllegalStateException {
        needKind(kind == 'l' || kind == 'f' || kind == 'c');
        needBelow(name, kind == 'c' ? CONSTANTS : LOCALS);
        return addNode(Kind.OR_SET, name, kind, new int[] {value});
    }

    public int call(int receiver, int message, int first, int second, int block) throws IllegalArgumentException, IndexOutOfBoundsException, UnsupportedOperationException, IllegalStateException {
        needBelow(message, MESSAGES);
        return addNode(Kind.CALL, message, 0, new int[] {receiver, first, second, block});
    }

    public int safeCall(int receiver, int message, int first, int second) throws IllegalArgumentException, IndexOutOfBoundsException, UnsupportedOperationException, IllegalStateException {
        needBelow(message, MESSAGES);
        return addNode(Kind.SAFE_CALL, message, 0, new int[] {receiver, first, second});
    }

    public int superCall(boolean isAsNow, int first, int second) throws IndexOutOfBoundsException, UnsupportedOperationException, IllegalStateException {
        return addNode(Kind.SUPER, isAsNow ? 1 : 0, 0, new int[] {isAsNow ? -1 : first, isAsNow ? -1 : second});
    }

    public int block(int parameters, int first, int second, int body) throws IllegalArgumentException, IndexOutOfBoundsException, UnsupportedOperationException, IllegalStateException {
        needBelow(parameters, 3);
        int one = parameters > 0 ? first : -1;
        int two = parameters > 1 ? second : -1;
        if (parameters > 0) {
            needBelow(one, LOCALS);
        }
        if (parameters > 1) {
            needBelow(two, LOCALS);
            needKind(one != two);
        }
        return addNode(Kind.BLOCK, one, two, new int[] {body});
    }

    public int proc(int block, boolean isLambda) throws IndexOutOfBoundsException, UnsupportedOperationException, IllegalStateException {
        return addNode(Kind.PROC, isLambda ? 1 : 0, 0, new int[] {block});
    }

    public int yields(int first, int second) throws IndexOutOfBoundsException, UnsupportedOperationException, IllegalStateException {
        return addNode(Kind.YIELDS, 0, 0, new int[] {first, second});
    }

    public int leave(char kind, int value) throws IllegalArgumentException, IndexOutOfBoundsException, UnsupportedOperationException, IllegalStateException {
        needKind(kind == 'b' || kind == 'n' || kind == 'r');
        return addNode(Kind.LEAVE, kind, 0, new int[] {value});
    }

    public int both(int first, int second) throws IndexOutOfBoundsException, UnsupportedOperationException, IllegalStateException {
        return addNode(Kind.BOTH, 0, 0, new int[] {first, second});
    }

    public int choice(int condition, int yes, int no) throws IndexOutOfBoundsException, UnsupportedOperationException, IllegalStateException {
        return addNode(Kind.CHOICE, 0, 0, new int[] {condition, yes, no});
    }

    public int loop(int condition, int body) throws IndexOutOfBoundsException, UnsupportedOperationException, IllegalStateException {
        return addNode(Kind.LOOP, 0, 0, new int[] {condition, body});
    }

    public int raises(int value) throws IndexOutOfBoundsException, UnsupportedOperationException, IllegalStateException {
        return addNode(Kind.RAISES, 0, 0, new int[] {value});
    }

    public int attempt(int body, int constant, int local, int handler, int other, int last) throws IllegalArgumentException, IndexOutOfBoundsException, UnsupportedOperationException, IllegalStateException {
        if (constant != -1) {
            needBelow(constant, CONSTANTS);
        }
        needBelow(local, LOCALS);
        return addNode(Kind.ATTEMPT, constant, local, new int[] {body, handler, other, last});
    }

    public int retry() throws IllegalStateException {
        return addNode(Kind.RETRY, 0, 0, new int[] {});
    }

    public int catches(int tag, int body) throws IndexOutOfBoundsException, UnsupportedOperationException, IllegalStateException {
        return addNode(Kind.CATCHES, 0, 0, new int[] {tag, body});
    }

    public int throwsTo(int tag, int value) throws IndexOutOfBoundsException, UnsupportedOperationException, IllegalStateException {
        return addNode(Kind.THROWS_TO, 0, 0, new int[] {tag, value});
    }

    public int classNode(int constant, int above, int body) throws IllegalArgumentException, IndexOutOfBoundsException, UnsupportedOperationException, IllegalStateException {
        needBelow(constant, CONSTANTS);
        return addNode(Kind.CLASS, constant, 0, new int[] {above, body});
    }

    public int moduleNode(int constant, int body) throws IllegalArgumentException, IndexOutOfBoundsException, UnsupportedOperationException, IllegalStateException {
        needBelow(constant, CONSTANTS);
        return addNode(Kind.MODULE, constant, 0, new int[] {-1, body});
    }

    public int define(int message, int needed, int standard, int body) throws IllegalArgumentException, IndexOutOfBoundsException, UnsupportedOperationException, IllegalStateException {
        needBelow(message, MESSAGES);
        needBelow(needed, 3);
        return addNode(Kind.DEFINE, message, needed, new int[] {-1, standard, body});
    }

    public int defineOn(int thing, int message, int needed, int standard, int body) throws IllegalArgumentException, IndexOutOfBoundsException, UnsupportedOperationException, IllegalStateException {
        needBelow(message, MESSAGES);
        needBelow(needed, 3);
        return addNode(Kind.DEFINE_ON, message, needed, new int[] {thing, standard, body});
    }

    public int mix(char kind, int thing, int module) throws IllegalArgumentException, IndexOutOfBoundsException, UnsupportedOperationException, IllegalStateException {
        needKind(kind == 'i' || kind == 'p' || kind == 'e');
        return addNode(Kind.MIX, kind, 0, new int[] {kind == 'e' ? thing : -1, module});
    }

    public int alias(int fresh, int old) throws IllegalArgumentException, IllegalStateException {
        needBelow(fresh, MESSAGES);
        needBelow(old, MESSAGES);
        return addNode(Kind.ALIAS, fresh, old, new int[] {});
    }

    public int undefine(int message) throws IllegalArgumentException, IllegalStateException {
        needBelow(message, MESSAGES);
        return addNode(Kind.UNDEFINE, message, 0, new int[] {});
    }

    public int visibility(char kind) throws IllegalArgumentException, IllegalStateException {
        needKind(kind == 'u' || kind == 'r' || kind == 'o');
        return addNode(Kind.VISIBILITY, 0, kind, new int[] {});
    }

    public int hide(int message, char kind) throws IllegalArgumentException, IllegalStateException {
        needBelow(message, MESSAGES);
        needKind(kind == 'u' || kind == 'r' || kind == 'o');
        return addNode(Kind.HIDE, message, kind, new int[] {});
    }

    public int freeze(int thing) throws IndexOutOfBoundsException, UnsupportedOperationException, IllegalStateException {
        return addNode(Kind.FREEZE, 0, 0, new int[] {thing});
    }

    public int refine(int thing, int body) throws IndexOutOfBoundsException, UnsupportedOperationException, IllegalStateException {
        return addNode(Kind.REFINE, 0, 0, new int[] {thing, body});
    }

    public int using(int module) throws IndexOutOfBoundsException, UnsupportedOperationException, IllegalStateException {
        return addNode(Kind.USING, 0, 0, new int[] {module});
    }

    public int isA(int thing, int module) throws IndexOutOfBoundsException, UnsupportedOperationException, IllegalStateException {
        return addNode(Kind.IS_A, 0, 0, new int[] {thing, module});
    }

    public int responds(int thing, int message) throws IllegalArgumentException, IndexOutOfBoundsException, UnsupportedOperationException, IllegalStateException {
        needBelow(message, MESSAGES);
        return addNode(Kind.RESPONDS, message, 0, new int[] {thing});
    }

    public int print(int thing) throws IndexOutOfBoundsException, UnsupportedOperationException, IllegalStateException {
        return addNode(Kind.PRINT, 0, 0, new int[] {thing});
    }

    public int setFile(int file) throws IllegalArgumentException {
        needBelow(file, FILES);
        int before = this.file;
        this.file = file;
        return before;
    }

    public boolean setKeeping(boolean is) {
        boolean was = isKeeping;
        isKeeping = is;
        return was;
    }

    public char run(int node, int limit) throws IndexOutOfBoundsException, IllegalArgumentException {
        needRunnable(node);
        if (limit < 1 || limit > MOST_STEPS) {
            throw new IllegalArgumentException("the limit is out of range");
        }
        Machine.go(last, nodes, node, limit, isKeeping);
        return last.end;
    }

    public int steps() {
        return last.steps;
    }

    public int printed() {
        return last.prints.last();
    }

    public char kindAt(int index) throws IndexOutOfBoundsException {
        return Thing.signOf(printedAt(index));
    }

    public int valueAt(int index) throws IndexOutOfBoundsException {
        long thing = printedAt(index);
        int sort = Thing.sortOf(thing);
        int value = Thing.valueOf(thing);
        if (sort == Thing.NUMBER || sort == Thing.MESSAGE) {
            return value;
        }
        if (sort == Thing.OBJECT) {
            return last.types.objects.intAt(value, Types.CLASS) - 1;
        }
        return Thing.isType(thing) ? value - 1 : 0;
    }

    public int raised() throws NoSuchElementException {
        if (last.end != 'e') {
            throw new NoSuchElementException("nothing was raised and not got");
        }
        return last.types.classOf(last.carried) - 1;
    }

    public int classes() {
        return last.types.types.last();
    }

    public int lineage(int index) throws IndexOutOfBoundsException {
        needClass(index);
        last.finder.lineUpType(index + 1);
        return last.finder.line.last();
    }

    public int lineageAt(int index, int place) throws IndexOutOfBoundsException {
        needClass(index);
        last.finder.lineUpType(index + 1);
        if (place < 0 || place >= last.finder.line.last()) {
            throw new IndexOutOfBoundsException("there is no such place");
        }
        return last.finder.typeAt(place + 1) - 1;
    }

    public int ownerOf(int index, int message) throws IndexOutOfBoundsException, IllegalArgumentException, NoSuchElementException {
        needClass(index);
        needBelow(message, MESSAGES);
        last.finder.lineUpType(index + 1);
        last.finder.search(message, last.nothing, 1, false);
        if (last.finder.entry <= 0) {
            throw new NoSuchElementException("the message is not found");
        }
        return last.types.tables.intAt(last.finder.place, Types.TYPE) - 1;
    }

    public int hits() {
        return last.finder.hits;
    }

    public int misses() {
        return last.finder.misses;
    }

    public int definitions() {
        return last.finder.definitions;
    }

    public int warnings() {
        return last.types.warnings;
    }

    public long sum() {
        long sum = 0;
        for (int i = 1; i <= last.prints.last(); i++) {
            long thing = last.prints.at(i, 0);
            if (Thing.sortOf(thing) == Thing.NUMBER) {
                sum += Thing.valueOf(thing);
            }
        }
        return sum;
    }

    public float hitShare() throws ArithmeticException {
        return share();
    }

    public int hitBits() throws ArithmeticException {
        float rest = share();
        if (rest == 0) {
            return 0;
        }
        int exponent = 127;
        for (int i = 0; i < 127 && rest < 1; i++) {
            rest = rest * 2;
            exponent--;
        }
        return (exponent << 23) | (int) ((rest - 1) * 8388608);
    }

    public double meanLineage() throws ArithmeticException {
        int number = last.types.types.last();
        if (number < 1) {
            throw new ArithmeticException("nothing was run");
        }
        int sum = 0;
        for (int type = 1; type <= number; type++) {
            last.finder.lineUpType(type);
            sum += last.finder.line.last();
        }
        return (double) sum / (double) number;
    }

    public boolean isSame(int node) throws IndexOutOfBoundsException {
        needRunnable(node);
        Machine.go(kept, nodes, node, SAME_STEPS, true);
        Machine.go(unkept, nodes, node, SAME_STEPS, false);
        boolean is = kept.end == unkept.end && kept.steps == unkept.steps && kept.prints.last() == unkept.prints.last();
        for (int i = 1; i <= kept.prints.last() && is; i++) {
            is = kept.shown(kept.prints.at(i, 0)) == unkept.shown(unkept.prints.at(i, 0));
        }
        return is;
    }

    private static void needBelow(int number, int bound) {
        if (number < 0 || number >= bound) {
            throw new IllegalArgumentException("a number is out of range");
        }
    }

    private static void needKind(boolean is) {
        if (!is) {
            throw new IllegalArgumentException("there is no such kind");
        }
    }

    private void needRunnable(int node) {
        if (isBlock(node) || node < 0 || node >= nodeCount) {
            throw new IndexOutOfBoundsException("there is no such node, or it is a block");
        }
    }

    private void needClass(int index) {
        if (index < 0 || index >= last.types.types.last()) {
            throw new IndexOutOfBoundsException("there is no such class or module");
        }
    }

    private long printedAt(int index) {
        if (index < 0 || index >= last.prints.last()) {
            throw new IndexOutOfBoundsException("there is no such thing");
        }
        return last.prints.at(index + 1, 0);
    }

    private float share() {
        int all = last.finder.hits + last.finder.misses;
        if (all < 1) {
            throw new ArithmeticException("there were neither hits nor misses");
        }
        return (float) last.finder.hits / (float) all;
    }

    private boolean isBlock(int node) {
        return node >= 0 && node < nodeCount && nodes[node] != null && nodes[node].kind == Kind.BLOCK;
    }

    private int addNode(Kind kind, int name, int sort, int[] parts) {
        needParts(kind, parts);
        needFree(parts);
        if (nodeCount >= MOST_NODES) {
            throw new IllegalStateException("there are 240 nodes");
        }
        for (int part : parts) {
            if (part >= 0 && part < nodeCount && nodes[part] != null) {
                nodes[part].isPart = true;
            }
        }
        nodes[nodeCount] = new Node(kind, nodeCount, file, name, sort, parts);
        nodeCount++;
        return nodeCount - 1;
    }

    private void needParts(Kind kind, int[] parts) {
        for (int i = 0; i < parts.length; i++) {
            int part = parts[i];
            boolean isLeftOut = part == -1 && (kind.missable >> i & 1) == 1;
            boolean isThere = part >= 0 && part < nodeCount && isBlock(part) == (i == kind.blockPart);
            boolean isSecondAlone = part != -1 && i > 0 && i - 1 == kind.firstArgument && parts[i - 1] == -1;
            if (!isLeftOut && !isThere || isSecondAlone) {
                throw new IndexOutOfBoundsException("there is no such node for a part");
            }
        }
    }

    private void needFree(int[] parts) {
        for (int i = 0; i < parts.length; i++) {
            int part = parts[i];
            boolean isTaken = part >= 0 && part < nodeCount && nodes[part] != null && nodes[part].isPart;
            for (int j = 0; j < i; j++) {
                isTaken = isTaken || part >= 0 && parts[j] == part;
            }
            if (isTaken) {
                throw new UnsupportedOperationException("a part is a part already");
            }
        }
    }

    /** What a node does, and what it wants of its parts. */
    private enum Kind {
        NUMBER(0, 0, -1, -1), MESSAGE(0, 0, -1, -1), PLAIN(0, 0, -1, -1), LOCAL(0, 0, -1, -1), FIELD(0, 0, -1, -1),
        CONSTANT(0, 0, -1, -1), SET_LOCAL(1, 0, -1, -1), SET_FIELD(1, 0, -1, -1), SET_CONSTANT(1, 0, -1, -1),
        OR_SET(0, 0, -1, -1), CALL(3, 15, 1, 3), SAFE_CALL(3, 6, 1, -1), SUPER(2, 3, 0, -1), BLOCK(0, 0, -1, -1),
        PROC(0, 0, -1, 0), YIELDS(2, 3, 0, -1), LEAVE(1, 1, -1, -1), BOTH(2, 0, -1, -1), CHOICE(1, 4, -1, -1),
        LOOP(1, 0, -1, -1), RAISES(1, 0, -1, -1), ATTEMPT(0, 12, -1, -1), RETRY(0, 0, -1, -1), CATCHES(1, 0, -1, -1),
        THROWS_TO(2, 0, -1, -1), CLASS(1, 1, -1, -1), MODULE(0, 1, -1, -1), DEFINE(0, 3, -1, -1),
        DEFINE_ON(1, 2, -1, -1), MIX(2, 1, -1, -1), ALIAS(0, 0, -1, -1), UNDEFINE(0, 0, -1, -1),
        VISIBILITY(0, 0, -1, -1), HIDE(0, 0, -1, -1), FREEZE(1, 0, -1, -1), REFINE(1, 0, -1, -1), USING(1, 0, -1, -1),
        IS_A(2, 0, -1, -1), RESPONDS(1, 0, -1, -1), PRINT(1, 0, -1, -1);

        /** How many of the first parts are worked out before the node itself does anything. */
        final int early;
        /** The parts that may be left out, a bit for each. */
        final int missable;
        /** The part that is the first argument, or -1; the second one, behind it, needs it. */
        final int firstArgument;
        /** The part that has to be a block, or -1. */
        final int blockPart;

        Kind(int early, int missable, int firstArgument, int blockPart) {
            this.early = early;
            this.missable = missable;
            this.firstArgument = firstArgument;
            this.blockPart = blockPart;
        }
    }

    private static final class Node {
        final Kind kind;
        final int number;
        final int file;
        /** The value, message, local, field, constant, or kind; of a block its first local. */
        final int name;
        /** What else there is: needed parameters, an old message, a local, or a kind; of a block its second local. */
        final int sort;
        private final int[] parts;
        boolean isPart;

        Node(Kind kind, int number, int file, int name, int sort, int[] parts) {
            this.kind = kind;
            this.number = number;
            this.file = file;
            this.name = name;
            this.sort = sort;
            this.parts = parts;
            this.isPart = false;
        }

        int part(int index) {
            return index >= 0 && index < parts.length ? parts[index] : -1;
        }

        /** How many arguments a method of this definition takes at most. */
        int mostArguments() {
            return part(1) >= 0 ? sort + 1 : sort;
        }

        /** How many parameters this block has. */
        int parameters() {
            return (name >= 0 ? 1 : 0) + (sort >= 0 ? 1 : 0);
        }
    }

    /** A thing is a long, its sort above its value, so that equal longs are the same thing and 0 is nil. */
    private static final class Thing {
        static final int NUMBER = 3;
        static final int MESSAGE = 4;
        static final int PROC = 5;
        static final int OBJECT = 6;
        static final int CLASS = 7;
        static final int MODULE = 8;
        static final long NIL = 0L;
        static final long TRUE = 1L << 32;
        static final long FALSE = 2L << 32;
        private static final String SIGNS = "NTFnspocm";

        static long of(int sort, int value) {
            return ((long) sort << 32) | (value & 0xFFFFFFFFL);
        }

        static long truth(boolean is) {
            return is ? TRUE : FALSE;
        }

        static int sortOf(long thing) {
            return (int) (thing >> 32);
        }

        static int valueOf(long thing) {
            return (int) thing;
        }

        static boolean isTrue(long thing) {
            return thing != NIL && thing != FALSE;
        }

        static boolean isType(long thing) {
            int sort = sortOf(thing);
            return sort == CLASS || sort == MODULE;
        }

        static char signOf(long thing) {
            int sort = sortOf(thing);
            return sort >= 0 && sort < SIGNS.length() ? SIGNS.charAt(sort) : 'N';
        }
    }

    /** Rows of numbers, used again from run to run; row 0 is none: it reads as 0 and cannot be written. */
    private static final class Rows {
        private final int width;
        private final int most;
        private long[] cells;
        private int count;

        Rows(int width, int most) {
            this.width = Math.max(width, 1);
            this.most = Math.max(most, 1);
            this.cells = new long[this.width * 4];
            this.count = 1;
        }

        void clear() {
            count = 1;
        }

        int last() {
            return count - 1;
        }

        /** Gives a new row, all 0, or row 0 if there are too many. */
        int add() {
            if (count > most) {
                return 0;
            }
            int from = count * width;
            if (from + width > cells.length) {
                cells = Arrays.copyOf(cells, Math.min(count * 2, most + 1) * width);
            }
            for (int i = from; i < from + width && i < cells.length; i++) {
                cells[i] = 0;
            }
            count++;
            return count - 1;
        }

        void drop() {
            if (count > 1) {
                count--;
            }
        }

        long at(int row, int column) {
            boolean isIn = row > 0 && row < count && column >= 0 && column < width;
            int cell = isIn ? row * width + column : -1;
            return cell >= 0 && cell < cells.length ? cells[cell] : 0;
        }

        int intAt(int row, int column) {
            boolean isIn = row > 0 && row < count && column >= 0 && column < width;
            int cell = isIn ? row * width + column : -1;
            return cell >= 0 && cell < cells.length ? (int) cells[cell] : 0;
        }

        void put(int row, int column, long value) {
            boolean isIn = row > 0 && row < count && column >= 0 && column < width;
            int cell = isIn ? row * width + column : -1;
            if (cell >= 0 && cell < cells.length) {
                cells[cell] = value;
            }
        }
    }

    /** The classes, modules and objects of a run, and what they have. */
    private static final class Types {
        static final int OBJECT = 1;
        static final int NUMBER = 2;
        static final int ERROR = 3;
        static final int NO_METHOD = 4;
        static final int BROKEN = 5;
        static final int FROZEN = 6;
        /** The entry of what was undefined; other entries are a method times 4 and its visibility. */
        static final int HIDDEN = -1;
        static final int PUBLIC = 0;
        static final int PRIVATE = 1;
        static final int PROTECTED = 2;
        // Columns that objects and types share.
        static final int IS_FROZEN = 0;
        static final int OWN = 1;
        static final int EXTENDED = 2;
        static final int FIELDS = 3;
        // Columns of types.
        static final int IS_MODULE = 9;
        static final int ABOVE = 10;
        static final int PLACE = 11;
        static final int AHEAD = 12;
        static final int INCLUDED = 13;
        static final int REFINED = 14;
        static final int HELD = 15;
        static final int SEEN = 16;
        static final int VALUES = 17;
        // Columns of objects.
        static final int CLASS = 9;
        static final int CAUSE = 10;
        // Columns of tables, which hold the methods of a place or a refinement.
        static final int TYPE = 0;
        static final int ENTRIES = 1;
        // Columns of links, which are chains of modules, the last one first.
        static final int MODULE = 0;
        static final int NEXT = 1;
        // Columns of refinements, chains too.
        static final int BY = 0;
        static final int TABLE = 1;
        static final int AFTER = 2;
        // Columns of methods.
        static final int NODE = 0;
        static final int SCOPE = 1;
        // Columns of scopes, the classes and modules around a place in the program.
        static final int INNERMOST = 0;
        static final int OUTER = 1;

        final Rows types = new Rows(VALUES + CONSTANTS, MOST_STEPS + 10);
        final Rows objects = new Rows(CAUSE + 1, 2 * MOST_STEPS + 10);
        final Rows tables = new Rows(ENTRIES + MESSAGES, MOST_STEPS + 10);
        final Rows links = new Rows(2, MOST_STEPS + 10);
        final Rows refinements = new Rows(3, MOST_STEPS + 10);
        final Rows methods = new Rows(2, MOST_STEPS + 10);
        final Rows scopes = new Rows(2, MOST_STEPS + 10);
        private final Rows none = new Rows(1, 1);
        int warnings;

        void reset() {
            types.clear();
            objects.clear();
            tables.clear();
            links.clear();
            refinements.clear();
            methods.clear();
            scopes.clear();
            warnings = 0;
            addType(false, 0);
            addType(false, OBJECT);
            addType(false, OBJECT);
            for (int i = NO_METHOD; i <= FROZEN; i++) {
                addType(false, ERROR);
            }
            for (int type = OBJECT; type <= FROZEN; type++) {
                holdConstant(OBJECT, type - 1, thingOf(type));
            }
        }

        int addType(boolean isModule, int above) {
            int type = types.add();
            types.put(type, IS_MODULE, isModule ? 1 : 0);
            types.put(type, ABOVE, above);
            types.put(type, PLACE, addTable(type));
            return type;
        }

        int addTable(int type) {
            int table = tables.add();
            tables.put(table, TYPE, type);
            return table;
        }

        long addObject(int type) {
            int object = objects.add();
            objects.put(object, CLASS, type);
            return Thing.of(Thing.OBJECT, object);
        }

        int addScope(int type, int outer) {
            int scope = scopes.add();
            scopes.put(scope, INNERMOST, type);
            scopes.put(scope, OUTER, outer);
            return scope;
        }

        int addMethod(int node, int scope) {
            int method = methods.add();
            methods.put(method, NODE, node);
            methods.put(method, SCOPE, scope);
            return method;
        }

        long thingOf(int type) {
            return Thing.of(types.at(type, IS_MODULE) == 1 ? Thing.MODULE : Thing.CLASS, type);
        }

        int classOf(long thing) {
            int sort = Thing.sortOf(thing);
            if (sort == Thing.NUMBER) {
                return NUMBER;
            }
            return sort == Thing.OBJECT ? objects.intAt(Thing.valueOf(thing), CLASS) : OBJECT;
        }

        /** The class that a node which opens this class again has to have above it: Object is no other class than itself. */
        int aboveToOpen(int type) {
            return type == OBJECT ? OBJECT : types.intAt(type, ABOVE);
        }

        /** The rows where a thing has its fields and its own place; rows without any if it has none. */
        Rows rowsOf(long thing) {
            int sort = Thing.sortOf(thing);
            if (sort == Thing.CLASS || sort == Thing.MODULE) {
                return types;
            }
            return sort == Thing.OBJECT ? objects : none;
        }

        boolean isFrozen(long thing) {
            Rows rows = rowsOf(thing);
            return rows == none || rows.at(Thing.valueOf(thing), IS_FROZEN) == 1;
        }

        boolean holdsConstant(int type, int name) {
            return (types.intAt(type, HELD) >> name & 1) == 1;
        }

        void holdConstant(int type, int name, long thing) {
            types.put(type, HELD, types.intAt(type, HELD) | 1 << name);
            types.put(type, VALUES + name, thing);
        }

        /** Whether a module stands in the chain of a column. */
        boolean isLinked(Rows rows, int row, int column, int module) {
            int link = rows.intAt(row, column);
            for (int i = 0; i <= MOST_STEPS && link > 0; i++) {
                if (links.intAt(link, MODULE) == module) {
                    return true;
                }
                link = links.intAt(link, NEXT);
            }
            return false;
        }

        void addLink(Rows rows, int row, int column, int module) {
            int link = links.add();
            links.put(link, MODULE, module);
            links.put(link, NEXT, rows.intAt(row, column));
            rows.put(row, column, link);
        }

        /** The table of the refinement of a class by a module, or 0. */
        int refinementTable(int type, int module) {
            int refinement = types.intAt(type, REFINED);
            for (int i = 0; i <= MOST_STEPS && refinement > 0; i++) {
                if (refinements.intAt(refinement, BY) == module) {
                    return refinements.intAt(refinement, TABLE);
                }
                refinement = refinements.intAt(refinement, AFTER);
            }
            return 0;
        }

        int addRefinement(int type, int module) {
            int refinement = refinements.add();
            int table = addTable(0);
            refinements.put(refinement, BY, module);
            refinements.put(refinement, TABLE, table);
            refinements.put(refinement, AFTER, types.intAt(type, REFINED));
            types.put(type, REFINED, refinement);
            return table;
        }
    }

    /** Works out lineages, finds messages in them, and keeps what calls found. */
    private static final class Finder {
        private static final int MANY = 1000000;
        // Columns of usings.
        private static final int MODULE = 0;
        private static final int FILE = 1;
        private static final int NODE = 2;
        // Columns of roots and of the climb: an own place, or a type with how far its lineage is.
        private static final int TABLE = 0;
        private static final int TYPE = 1;
        private static final int STAGE = 2;
        private static final int LINK = 3;
        // Columns of what is kept.
        private static final int RUN = 0;
        private static final int KEY = 1;
        private static final int DEFINITIONS = 2;
        private static final int ENTRY = 3;
        private static final int PLACE = 4;
        private static final int IS_REFINED = 5;
        /** Sets the things of a class apart from the class as a thing. */
        private static final int THINGS_OF_CLASS = 9;

        private final Types types;
        /** The lineage that was worked out last: the tables of its places. */
        final Rows line = new Rows(1, 2 * MOST_STEPS);
        private final Rows roots = new Rows(2, 2 * MOST_STEPS);
        private final Rows climb = new Rows(4, 4 * MOST_STEPS);
        private final Rows usings = new Rows(3, MOST_STEPS);
        private final Rows kept = new Rows(6, MOST_NODES);
        private int stamp;
        private int runs;
        private boolean isKeeping;
        int hits;
        int misses;
        int definitions;
        /** What was found: 0 nothing, below 0 nothing and hidden, and otherwise the place and how. */
        int entry;
        int place;
        boolean isRefined;

        Finder(Types types) {
            this.types = types;
            for (int i = 0; i < MOST_NODES; i++) {
                kept.add();
            }
        }

        void reset(boolean isKeeping) {
            this.isKeeping = isKeeping;
            usings.clear();
            runs++;
            hits = 0;
            misses = 0;
            definitions = 0;
        }

        /** The class or module at a place of the line, from 1. */
        int typeAt(int index) {
            return types.tables.intAt(line.intAt(index, 0), Types.TYPE);
        }

        void lineUpType(int type) {
            roots.clear();
            roots.put(roots.add(), TYPE, type);
            walk();
        }

        void lineUp(long thing) {
            roots.clear();
            int row = Thing.valueOf(thing);
            if (Thing.sortOf(thing) == Thing.CLASS) {
                for (int i = 0; i <= MOST_STEPS && row > 0; i++) {
                    rootOwn(types.types, row);
                    row = types.types.intAt(row, Types.ABOVE);
                }
            } else {
                rootOwn(types.rowsOf(thing), row);
            }
            roots.put(roots.add(), TYPE, types.classOf(thing));
            walk();
        }

        private void rootOwn(Rows rows, int row) {
            int own = rows.intAt(row, Types.OWN);
            if (own > 0) {
                roots.put(roots.add(), TABLE, own);
            }
            int link = rows.intAt(row, Types.EXTENDED);
            for (int i = 0; i <= MOST_STEPS && link > 0; i++) {
                roots.put(roots.add(), TYPE, types.links.intAt(link, Types.MODULE));
                link = types.links.intAt(link, Types.NEXT);
            }
        }

        /** Climbs without recursion, as chains of modules and classes can be long. */
        private void walk() {
            line.clear();
            climb.clear();
            stamp++;
            for (int i = roots.last(); i > 0; i--) {
                int item = climb.add();
                climb.put(item, TABLE, roots.at(i, TABLE));
                climb.put(item, TYPE, roots.at(i, TYPE));
            }
            for (int turn = 0; turn < MANY && climb.last() > 0; turn++) {
                int item = climb.last();
                int type = climb.intAt(item, TYPE);
                int stage = climb.intAt(item, STAGE);
                int link = climb.intAt(item, LINK);
                int next = 0;
                if (type == 0) {
                    line.put(line.add(), 0, climb.at(item, TABLE));
                    climb.drop();
                } else if (stage == 0 && types.types.intAt(type, Types.SEEN) == stamp || stage == 3) {
                    climb.drop();
                } else if (stage == 0) {
                    types.types.put(type, Types.SEEN, stamp);
                    climb.put(item, LINK, types.types.at(type, Types.AHEAD));
                    climb.put(item, STAGE, 1);
                } else if (link > 0) {
                    climb.put(item, LINK, types.links.at(link, Types.NEXT));
                    next = types.links.intAt(link, Types.MODULE);
                } else if (stage == 1) {
                    line.put(line.add(), 0, types.types.at(type, Types.PLACE));
                    climb.put(item, LINK, types.types.at(type, Types.INCLUDED));
                    climb.put(item, STAGE, 2);
                } else {
                    climb.put(item, STAGE, 3);
                    next = types.types.intAt(type, Types.ABOVE);
                }
                if (next > 0) {
                    climb.put(climb.add(), TYPE, next);
                }
            }
        }

        /** Where a place stands in the line, from 1, or 0. */
        int indexOf(int table) {
            for (int i = 1; i <= line.last(); i++) {
                if (line.intAt(i, 0) == table) {
                    return i;
                }
            }
            return 0;
        }

        boolean isInLine(int type) {
            return indexOf(types.types.intAt(type, Types.PLACE)) > 0;
        }

        /** Looks for a message from a place of the line on, there perhaps just in what the place has itself. */
        void search(int message, Node node, int from, boolean isPastRefinements) {
            entry = 0;
            for (int i = Math.max(from, 1); i <= line.last() && entry == 0; i++) {
                place = line.intAt(i, 0);
                entry = isPastRefinements && i == from ? 0 : refinedEntry(message, node);
                isRefined = entry != 0;
                if (entry == 0) {
                    entry = types.tables.intAt(place, Types.ENTRIES + message);
                }
            }
        }

        /** The entry of the last used refinement of the place that has one, or 0. */
        private int refinedEntry(int message, Node node) {
            int type = types.tables.intAt(place, Types.TYPE);
            int found = 0;
            if (types.types.intAt(type, Types.REFINED) > 0) {
                for (int i = usings.last(); i > 0 && found == 0; i--) {
                    if (usings.intAt(i, FILE) == node.file && usings.intAt(i, NODE) < node.number) {
                        int table = types.refinementTable(type, usings.intAt(i, MODULE));
                        found = types.tables.intAt(table, Types.ENTRIES + message);
                    }
                }
            }
            return found;
        }

        void addUsing(int module, Node node) {
            int use = usings.add();
            usings.put(use, MODULE, module);
            usings.put(use, FILE, node.file);
            usings.put(use, NODE, node.number);
            definitions++;
        }

        private long keyOf(long thing) {
            Rows rows = types.rowsOf(thing);
            int row = Thing.valueOf(thing);
            boolean hasOwn = rows.at(row, Types.OWN) > 0 || rows.at(row, Types.EXTENDED) > 0;
            return hasOwn || Thing.isType(thing) ? thing : Thing.of(THINGS_OF_CLASS, types.classOf(thing));
        }

        /** Whether a call node has kept what it would find; then this is found. */
        boolean isKept(long thing, Node node) {
            int row = node.number + 1;
            boolean isHit = isKeeping && kept.intAt(row, RUN) == runs && kept.at(row, KEY) == keyOf(thing)
                    && kept.intAt(row, DEFINITIONS) == definitions;
            if (isHit) {
                hits++;
                entry = kept.intAt(row, ENTRY);
                place = kept.intAt(row, PLACE);
                isRefined = kept.at(row, IS_REFINED) == 1;
            }
            return isHit;
        }

        void keep(long thing, Node node) {
            if (!isKeeping) {
                return;
            }
            misses++;
            int row = node.number + 1;
            kept.put(row, RUN, runs);
            kept.put(row, KEY, keyOf(thing));
            kept.put(row, DEFINITIONS, definitions);
            kept.put(row, ENTRY, entry);
            kept.put(row, PLACE, place);
            kept.put(row, IS_REFINED, isRefined ? 1 : 0);
        }

        /** The class or module that a constant is found in from a scope on, or 0. */
        int holderOf(int scope, int name) {
            int around = scope;
            for (int i = 0; i <= MOST_STEPS && around > 0; i++) {
                int type = types.scopes.intAt(around, Types.INNERMOST);
                if (type != Types.OBJECT && types.holdsConstant(type, name)) {
                    return type;
                }
                around = types.scopes.intAt(around, Types.OUTER);
            }
            lineUpType(types.scopes.intAt(scope, Types.INNERMOST));
            for (int i = 1; i <= line.last(); i++) {
                if (types.holdsConstant(typeAt(i), name)) {
                    return typeAt(i);
                }
            }
            return types.holdsConstant(Types.OBJECT, name) ? Types.OBJECT : 0;
        }
    }

    /** The state of a run: what is open, in which frames, and what goes from one node to the next. */
    private static final class Run {
        // Columns of the stack of what is open: nodes, and calls of methods and blocks.
        static final int NODE = 0;
        static final int ROLE = 1;
        static final int FRAME = 2;
        static final int NEXT = 3;
        static final int PHASE = 4;
        static final int BORN = 5;
        static final int SLOTS = 6;
        // Roles.
        static final int PLAIN_NODE = 0;
        static final int METHOD_CALL = 1;
        static final int BLOCK_CALL = 2;
        // Phases.
        static final int COLLECTING = 0;
        static final int READY = 1;
        /** What is worked out now is what the node gives. */
        static final int PASS = 2;
        static final int HOOK = 3;
        static final int ANSWERING = 4;
        static final int MISSING = 5;
        static final int MAKING = 6;
        static final int MADE = 7;
        static final int HOOKED = 13;
        static final int BODY = 8;
        static final int HANDLER = 9;
        static final int OTHER = 10;
        static final int LAST = 11;
        static final int PENDING = 12;
        // Columns of frames, one for the program and each call and body.
        static final int SELF = 0;
        static final int SORT = 1;
        static final int SCOPE = 2;
        static final int PARENT = 3;
        static final int HOME = 4;
        static final int BASE = 5;
        static final int IS_OVER = 6;
        static final int METHOD = 7;
        static final int PLACE = 8;
        static final int IS_REFINED = 9;
        static final int GIVEN = 10;
        static final int COUNT = 11;
        static final int CLOSURE = 12;
        static final int REFINING = 13;
        static final int VISIBILITY = 14;
        static final int MASK = 15;
        static final int VALUES = 16;
        // Sorts of frames.
        static final int PROGRAM = 0;
        static final int IN_METHOD = 1;
        static final int IN_BLOCK = 2;
        static final int IN_LAMBDA = 3;
        static final int IN_BODY = 4;
        // Columns of closures: blocks that were made, of procs, too.
        static final int MADE_OF = 0;
        static final int MADE_IN = 1;
        static final int GIVEN_TO = 2;
        static final int GIVEN_AT = 3;
        static final int IS_LAMBDA = 4;
        static final int MADE_REFINING = 5;
        // Signals.
        static final int CALM = 0;
        static final int LEAVE = 1;
        static final int AGAIN = 2;
        static final int RETRY = 3;
        static final int RAISE = 4;
        /** Something new of the class in target is to be raised. */
        static final int FAIL = 5;
        /** What is on top of the stack gives the value. */
        static final int DONE = 6;
        private static final int MOST_PRINTS = 60;
        private static final int ALL_LOCALS = 63;

        Node[] nodes = new Node[0];
        final Node nothing = new Node(Kind.PLAIN, -1, 0, 'N', 0, new int[] {});
        final Types types;
        final Finder finder;
        final Rows stack = new Rows(SLOTS + 3, MOST_STEPS + 100);
        final Rows frames = new Rows(VALUES + LOCALS, MOST_STEPS + 100);
        final Rows closures = new Rows(6, MOST_STEPS + 100);
        final Rows prints = new Rows(1, MOST_PRINTS);
        final long[] arguments = new long[3];
        int argumentCount;
        int given;
        long receiver;
        long value;
        int signal;
        long carried;
        int target;
        int steps;
        int limit;
        int depth;
        char end;

        private Run(Types types, Finder finder) {
            this.types = types;
            this.finder = finder;
        }

        static Run fresh() {
            Types types = new Types();
            return new Run(types, new Finder(types));
        }

        void reset(Node[] nodes, int limit, boolean isKeeping) {
            this.nodes = nodes;
            this.limit = limit;
            types.reset();
            finder.reset(isKeeping);
            stack.clear();
            frames.clear();
            closures.clear();
            prints.clear();
            signal = CALM;
            value = Thing.NIL;
            carried = Thing.NIL;
            steps = 0;
            depth = 0;
            end = 0;
        }

        Node nodeAt(int number) {
            Node node = number >= 0 && number < nodes.length ? nodes[number] : nothing;
            return node == null ? nothing : node;
        }

        /** Begins a node, which is a step. */
        void begin(int node, int frame) {
            if (steps >= limit) {
                end = 'l';
                return;
            }
            steps++;
            open(PLAIN_NODE, node, frame);
        }

        int open(int role, int node, int frame) {
            int at = stack.add();
            stack.put(at, ROLE, role);
            stack.put(at, NODE, node);
            stack.put(at, FRAME, frame);
            stack.put(at, BORN, steps);
            return at;
        }

        /** Goes on with a part of a node, with a phase that tells what is to be done behind it. */
        void goOn(int at, int phase, int part) {
            stack.put(at, PHASE, phase);
            begin(part, stack.intAt(at, FRAME));
        }

        void setPhase(int at, int phase) {
            stack.put(at, PHASE, phase);
        }

        void finish(long thing) {
            value = thing;
            signal = DONE;
        }

        void close() {
            int at = stack.last();
            if (stack.intAt(at, ROLE) != PLAIN_NODE) {
                frames.put(stack.intAt(at, FRAME), IS_OVER, 1);
                depth--;
            }
            stack.drop();
        }

        void fail(int type) {
            signal = FAIL;
            target = type;
        }

        void signalTo(int signal, int target, long thing) {
            this.signal = signal;
            this.target = target;
            this.carried = thing;
        }

        long slot(int at, int index) {
            return stack.at(at, SLOTS + index);
        }

        void setSlot(int at, int index, long thing) {
            stack.put(at, SLOTS + index, thing);
        }

        int frameOf(int at) {
            return stack.intAt(at, FRAME);
        }

        long selfOf(int at) {
            return frames.at(stack.intAt(at, FRAME), SELF);
        }

        /** The frame of the method around, or 0. */
        int homeOf(int at) {
            return frames.intAt(stack.intAt(at, FRAME), HOME);
        }

        int scopeOf(int at) {
            return frames.intAt(stack.intAt(at, FRAME), SCOPE);
        }

        int innermostOf(int at) {
            return types.scopes.intAt(scopeOf(at), Types.INNERMOST);
        }

        int addFrame(int sort, long self, int scope) {
            int frame = frames.add();
            frames.put(frame, SORT, sort);
            frames.put(frame, SELF, self);
            frames.put(frame, SCOPE, scope);
            frames.put(frame, MASK, ALL_LOCALS);
            return frame;
        }

        /** The frame that has a local: blocks have just their parameters, all others are those around. */
        private int frameOfLocal(int frame, int name) {
            int found = frame;
            for (int i = 0; i <= MOST_STEPS && found > 0; i++) {
                if ((frames.intAt(found, MASK) >> name & 1) == 1) {
                    return found;
                }
                found = frames.intAt(found, PARENT);
            }
            return frame;
        }

        long localAt(int frame, int name) {
            return frames.at(frameOfLocal(frame, name), VALUES + name);
        }

        void putLocal(int frame, int name, long thing) {
            frames.put(frameOfLocal(frame, name), VALUES + name, thing);
        }

        boolean isOpen(int at, Kind kind) {
            return stack.intAt(at, ROLE) == PLAIN_NODE && nodeAt(stack.intAt(at, NODE)).kind == kind;
        }

        /** The innermost open loop around in the same method, block or body, or 0. */
        int loopAround(int frame) {
            for (int at = stack.last(); at > 0 && stack.intAt(at, FRAME) == frame; at--) {
                if (isOpen(at, Kind.LOOP)) {
                    return at;
                }
            }
            return 0;
        }

        /** The innermost open node of a kind and phase around in the same method, block or body, or 0. */
        int around(int frame, Kind kind, int phase) {
            for (int at = stack.last(); at > 0 && stack.intAt(at, FRAME) == frame; at--) {
                if (isOpen(at, kind) && stack.intAt(at, PHASE) == phase) {
                    return at;
                }
            }
            return 0;
        }

        /** The table of the refinement whose body is around, or 0. */
        int refiningAt(int frame) {
            int at = around(frame, Kind.REFINE, PASS);
            return at > 0 ? (int) slot(at, 1) : frames.intAt(frame, REFINING);
        }

        void setArguments(int count, long first, long second, long third) {
            argumentCount = count;
            arguments[0] = first;
            arguments[1] = second;
            arguments[2] = third;
        }

        /** What can be seen of a printed thing: objects of one class look the same. */
        long shown(long thing) {
            int sort = Thing.sortOf(thing);
            if (sort == Thing.OBJECT) {
                return Thing.of(sort, types.classOf(thing));
            }
            return sort == Thing.PROC ? Thing.of(sort, 0) : thing;
        }
    }

    /** Works out nodes one turn after the other, without recursion, as they can stand in one another deeply. */
    private static final class Machine {
        private static final int MANY = 1000000;

        static void go(Run r, Node[] nodes, int node, int limit, boolean isKeeping) {
            r.reset(nodes, limit, isKeeping);
            r.begin(node, r.addFrame(Run.PROGRAM, Thing.NIL, r.types.addScope(Types.OBJECT, 0)));
            for (int turn = 0; turn < MANY && r.end == 0; turn++) {
                int at = r.stack.last();
                Node n = r.nodeAt(r.stack.intAt(at, Run.NODE));
                int role = r.stack.intAt(at, Run.ROLE);
                int phase = r.stack.intAt(at, Run.PHASE);
                if (r.signal == Run.DONE) {
                    r.signal = Run.CALM;
                    r.close();
                } else if (r.signal != Run.CALM) {
                    Leaver.unwind(r);
                } else if (at == 0) {
                    r.end = 'd';
                } else if (role == Run.METHOD_CALL) {
                    Caller.onMethod(r, at, n);
                } else if (role == Run.BLOCK_CALL) {
                    Caller.onBlock(r, at, n);
                } else if (phase >= Run.PASS && phase <= Run.MADE) {
                    actByPhase(r, at, n);
                } else if (phase != Run.COLLECTING || !collects(r, at, n)) {
                    actByKind(r, at, n);
                }
            }
        }

        /** Begins the next of the early parts; tells whether the node has to wait. */
        private static boolean collects(Run r, int at, Node n) {
            int next = r.stack.intAt(at, Run.NEXT);
            if (n.kind == Kind.SUPER && r.homeOf(at) == 0) {
                // Out of a method nothing is told of arguments: super raises before any is worked out.
                r.fail(Types.BROKEN);
                return true;
            }
            if (next > 0) {
                r.setSlot(at, next - 1, r.value);
            }
            if (next == 1 && n.kind == Kind.SAFE_CALL && r.value == Thing.NIL) {
                r.finish(Thing.NIL);
                return true;
            }
            for (; next < n.kind.early; next++) {
                if (n.part(next) >= 0) {
                    r.stack.put(at, Run.NEXT, next + 1);
                    r.begin(n.part(next), r.frameOf(at));
                    return true;
                }
            }
            r.setPhase(at, Run.READY);
            return false;
        }

        private static void actByPhase(Run r, int at, Node n) {
            switch (r.stack.intAt(at, Run.PHASE)) {
                case Run.HOOK: Caller.onHook(r, at, n); break;
                case Run.ANSWERING: Caller.onAnswering(r, at); break;
                case Run.MISSING: Caller.onMissing(r, at, n); break;
                case Run.MAKING: Caller.onMaking(r, at, n); break;
                case Run.MADE: Caller.onMade(r, at, n); break;
                default: r.finish(r.value); break;
            }
        }

        private static void actByKind(Run r, int at, Node n) {
            switch (n.kind) {
                case NUMBER: r.finish(Thing.of(Thing.NUMBER, n.name)); break;
                case MESSAGE: r.finish(Thing.of(Thing.MESSAGE, n.name)); break;
                case PLAIN: onPlain(r, at, n); break;
                case LOCAL: r.finish(r.localAt(r.frameOf(at), n.name)); break;
                case FIELD: r.finish(fieldOf(r, r.selfOf(at), n.name)); break;
                case CONSTANT: onConstant(r, at, n); break;
                case SET_LOCAL: case SET_FIELD: case SET_CONSTANT: setTo(r, at, n, r.slot(at, 0)); break;
                case OR_SET: onOrSet(r, at, n); break;
                case CALL: case SAFE_CALL: Caller.onCall(r, at, n); break;
                case SUPER: Caller.onSuper(r, at, n); break;
                case PROC: Caller.onProc(r, at, n); break;
                case YIELDS: Caller.onYield(r, at, n); break;
                case LEAVE: Leaver.onLeave(r, at, n); break;
                case BOTH: r.finish(r.slot(at, 1)); break;
                case CHOICE: onChoice(r, at, n); break;
                case LOOP: onLoop(r, at, n); break;
                case RAISES: Caller.onRaise(r, at); break;
                case ATTEMPT: Leaver.onAttempt(r, at, n); break;
                case RETRY: Leaver.onRetry(r, at); break;
                case CATCHES: r.goOn(at, Run.PASS, n.part(1)); break;
                case THROWS_TO: Leaver.onThrow(r, at); break;
                case CLASS: case MODULE: Definer.onType(r, at, n); break;
                case DEFINE: Definer.onDefine(r, at, n); break;
                case DEFINE_ON: Definer.onDefineOn(r, at, n); break;
                case MIX: Definer.onMix(r, at, n); break;
                case ALIAS: Definer.onAlias(r, at, n); break;
                case UNDEFINE: Definer.onUndefine(r, at, n); break;
                case VISIBILITY: Definer.onVisibility(r, at, n); break;
                case HIDE: Definer.onHide(r, at, n); break;
                case FREEZE: onFreeze(r, r.slot(at, 0)); break;
                case REFINE: Definer.onRefine(r, at, n); break;
                case USING: Definer.onUsing(r, at, n); break;
                case IS_A: onIsA(r, r.slot(at, 0), r.slot(at, 1)); break;
                case RESPONDS: onResponds(r, at, n); break;
                case PRINT: onPrint(r, r.slot(at, 0)); break;
                default: r.finish(Thing.NIL); break;
            }
        }

        private static void onPlain(Run r, int at, Node n) {
            if (n.name == 'S') {
                r.finish(r.selfOf(at));
            } else {
                r.finish(n.name == 'T' ? Thing.TRUE : n.name == 'F' ? Thing.FALSE : Thing.NIL);
            }
        }

        private static long fieldOf(Run r, long thing, int name) {
            return r.types.rowsOf(thing).at(Thing.valueOf(thing), Types.FIELDS + name);
        }

        private static void onConstant(Run r, int at, Node n) {
            int holder = r.finder.holderOf(r.scopeOf(at), n.name);
            if (holder > 0) {
                r.finish(r.types.types.at(holder, Types.VALUES + n.name));
            } else {
                r.fail(Types.ERROR);
            }
        }

        /** Sets the local, field or constant of a node, whose sort tells which. */
        private static void setTo(Run r, int at, Node n, long thing) {
            if (n.sort == 'l') {
                r.putLocal(r.frameOf(at), n.name, thing);
                r.finish(thing);
                return;
            }
            int type = r.innermostOf(at);
            long owner = n.sort == 'f' ? r.selfOf(at) : r.types.thingOf(type);
            if (r.types.isFrozen(owner)) {
                r.fail(Types.FROZEN);
                return;
            }
            if (n.sort == 'f') {
                r.types.rowsOf(owner).put(Thing.valueOf(owner), Types.FIELDS + n.name, thing);
            } else {
                r.types.warnings += r.types.holdsConstant(type, n.name) ? 1 : 0;
                r.types.holdConstant(type, n.name, thing);
            }
            r.finish(thing);
        }

        private static void onOrSet(Run r, int at, Node n) {
            if (r.stack.intAt(at, Run.PHASE) == Run.BODY) {
                setTo(r, at, n, r.value);
                return;
            }
            long there = Thing.NIL;
            if (n.sort == 'l') {
                there = r.localAt(r.frameOf(at), n.name);
            } else if (n.sort == 'f') {
                there = fieldOf(r, r.selfOf(at), n.name);
            } else {
                there = r.types.types.at(r.finder.holderOf(r.scopeOf(at), n.name), Types.VALUES + n.name);
            }
            if (Thing.isTrue(there)) {
                r.finish(there);
            } else {
                r.goOn(at, Run.BODY, n.part(0));
            }
        }

        private static void onChoice(Run r, int at, Node n) {
            int chosen = n.part(Thing.isTrue(r.slot(at, 0)) ? 1 : 2);
            if (chosen < 0) {
                r.finish(Thing.NIL);
            } else {
                r.goOn(at, Run.PASS, chosen);
            }
        }

        private static void onLoop(Run r, int at, Node n) {
            if (r.stack.intAt(at, Run.PHASE) == Run.BODY) {
                turnAgain(r, at);
            } else if (Thing.isTrue(r.slot(at, 0))) {
                r.goOn(at, Run.BODY, n.part(1));
            } else {
                r.finish(Thing.NIL);
            }
        }

        static void turnAgain(Run r, int loop) {
            r.stack.put(loop, Run.NEXT, 0);
            r.setPhase(loop, Run.COLLECTING);
        }

        private static void onFreeze(Run r, long thing) {
            r.types.rowsOf(thing).put(Thing.valueOf(thing), Types.IS_FROZEN, 1);
            r.finish(thing);
        }

        private static void onIsA(Run r, long thing, long type) {
            if (!Thing.isType(type)) {
                r.fail(Types.ERROR);
                return;
            }
            r.finder.lineUp(thing);
            r.finish(Thing.truth(r.finder.isInLine(Thing.valueOf(type))));
        }

        private static void onResponds(Run r, int at, Node n) {
            r.finder.lineUp(r.slot(at, 0));
            r.finder.search(n.name, n, 1, false);
            r.finish(Thing.truth(r.finder.entry > 0 && (r.finder.entry & 3) == Types.PUBLIC));
        }

        private static void onPrint(Run r, long thing) {
            r.prints.put(r.prints.add(), 0, thing);
            r.finish(thing);
        }
    }

    /** Calls: methods, what answers without one, blocks, and hooks. */
    private static final class Caller {
        private static final int DEEPEST = 40;
        private static final int BEGIN = 0;
        private static final int ANSWER = 1;

        static void onCall(Run r, int at, Node n) {
            boolean isToSelf = n.part(0) < 0;
            long receiver = isToSelf ? r.selfOf(at) : r.slot(at, 0);
            takeArguments(r, at, n, 1);
            r.receiver = receiver;
            r.given = n.part(3) >= 0 ? addClosure(r, at, n.part(3), r.refiningAt(r.frameOf(at))) : 0;
            if (!r.finder.isKept(receiver, n)) {
                r.finder.lineUp(receiver);
                r.finder.search(n.name, n, 1, false);
                r.finder.keep(receiver, n);
            }
            if (r.finder.entry > 0 && (isToSelf || mayCall(r, r.selfOf(at)))) {
                r.setPhase(at, Run.PASS);
                invoke(r);
            } else {
                goWithout(r, at, n.name);
            }
        }

        private static void takeArguments(Run r, int at, Node n, int first) {
            int count = n.part(first) < 0 ? 0 : n.part(first + 1) < 0 ? 1 : 2;
            r.setArguments(count, count > 0 ? r.slot(at, first) : Thing.NIL,
                    count > 1 ? r.slot(at, first + 1) : Thing.NIL, Thing.NIL);
        }

        private static int addClosure(Run r, int at, int block, int refining) {
            int closure = r.closures.add();
            r.closures.put(closure, Run.MADE_OF, block);
            r.closures.put(closure, Run.MADE_IN, r.frameOf(at));
            r.closures.put(closure, Run.GIVEN_TO, at);
            r.closures.put(closure, Run.GIVEN_AT, r.stack.intAt(at, Run.BORN));
            r.closures.put(closure, Run.MADE_REFINING, refining);
            return closure;
        }

        /** Whether what was found may be called with a receiver from where self is this. */
        private static boolean mayCall(Run r, long self) {
            int entry = r.finder.entry;
            int visibility = entry & 3;
            if (visibility != Types.PROTECTED) {
                return visibility == Types.PUBLIC;
            }
            r.finder.lineUp(self);
            return r.finder.indexOf(r.finder.place) > 0;
        }

        /** Calls the method that was found. */
        private static void invoke(Run r) {
            int method = r.finder.entry >> 2;
            Node n = r.nodeAt(r.types.methods.intAt(method, Types.NODE));
            if (r.argumentCount < n.sort || r.argumentCount > n.mostArguments()) {
                r.fail(Types.ERROR);
                return;
            }
            if (r.depth >= DEEPEST) {
                r.fail(Types.BROKEN);
                return;
            }
            r.depth++;
            int frame = r.addFrame(Run.IN_METHOD, r.receiver, r.types.methods.intAt(method, Types.SCOPE));
            r.frames.put(frame, Run.HOME, frame);
            r.frames.put(frame, Run.METHOD, method);
            r.frames.put(frame, Run.PLACE, r.finder.place);
            r.frames.put(frame, Run.IS_REFINED, r.finder.isRefined ? 1 : 0);
            r.frames.put(frame, Run.GIVEN, r.given);
            r.frames.put(frame, Run.COUNT, r.argumentCount);
            for (int i = 0; i < r.argumentCount && i < r.arguments.length; i++) {
                r.frames.put(frame, Run.VALUES + i, r.arguments[i]);
            }
            r.frames.put(frame, Run.BASE, r.open(Run.METHOD_CALL, n.number, frame));
        }

        static void onMethod(Run r, int at, Node n) {
            int frame = r.frameOf(at);
            int phase = r.stack.intAt(at, Run.PHASE);
            if (phase == ANSWER) {
                r.finish(r.value);
                return;
            }
            boolean isWorkedOut = phase == Run.OTHER;
            if (isWorkedOut) {
                r.frames.put(frame, Run.VALUES + n.sort, r.value);
            }
            if (!isWorkedOut && r.frames.intAt(frame, Run.COUNT) < n.mostArguments()) {
                r.goOn(at, Run.OTHER, n.part(1));
            } else {
                r.goOn(at, ANSWER, n.part(2));
            }
        }

        /** Goes on where no method can be called: with what is told of the message itself, or with 1. */
        private static void goWithout(Run r, int at, int message) {
            r.setSlot(at, 0, Thing.of(Thing.MESSAGE, message));
            r.setPhase(at, r.finder.entry == 0 ? Run.ANSWERING : Run.MISSING);
        }

        /** Does what is told of the messages 10 to 16, if it is told of this receiver. */
        static void onAnswering(Run r, int at) {
            int message = Thing.valueOf(r.slot(at, 0));
            int sort = Thing.sortOf(r.receiver);
            int value = Thing.valueOf(r.receiver);
            if (message >= 10 && message <= 12 && sort == Thing.NUMBER) {
                reckon(r, message, value);
            } else if (message == 13) {
                r.finish(Thing.truth(r.receiver == r.arguments[0]));
            } else if (message == 14 && sort == Thing.CLASS && value == Types.NUMBER) {
                r.fail(Types.ERROR);
            } else if (message == 14 && sort == Thing.CLASS) {
                r.setSlot(at, 0, r.types.addObject(value));
                r.setPhase(at, Run.MAKING);
            } else if (message == 15 && sort == Thing.PROC) {
                r.setPhase(at, Run.PASS);
                callBlock(r, value);
            } else if (message == 16 && sort == Thing.OBJECT) {
                r.finish(r.types.objects.at(value, Types.CAUSE));
            } else {
                r.setPhase(at, Run.MISSING);
            }
        }

        private static void reckon(Run r, int message, int left) {
            long other = r.arguments[0];
            if (r.argumentCount < 1 || Thing.sortOf(other) != Thing.NUMBER) {
                r.fail(Types.ERROR);
                return;
            }
            int right = Thing.valueOf(other);
            if (message == 12) {
                r.finish(Thing.truth(left < right));
            } else {
                r.finish(Thing.of(Thing.NUMBER, message == 10 ? left + right : left - right));
            }
        }

        /** Calls 1 with the message in the first slot, or raises a NoMethod. */
        static void onMissing(Run r, int at, Node n) {
            r.finder.lineUp(r.receiver);
            r.finder.search(1, n, 1, false);
            if (r.finder.entry > 0) {
                r.setPhase(at, Run.PASS);
                r.setArguments(2, r.slot(at, 0), r.arguments[0], Thing.NIL);
                invoke(r);
            } else {
                r.fail(Types.NO_METHOD);
            }
        }

        /** Calls 0 on the object in the first slot, if it is found, with the arguments that there are. */
        static void onMaking(Run r, int at, Node n) {
            r.receiver = r.slot(at, 0);
            r.given = 0;
            r.setPhase(at, Run.MADE);
            r.finder.lineUp(r.receiver);
            r.finder.search(0, n, 1, false);
            if (r.finder.entry > 0) {
                invoke(r);
            }
        }

        static void onMade(Run r, int at, Node n) {
            if (n.kind == Kind.RAISES) {
                Leaver.raiseThing(r, r.slot(at, 0));
            } else {
                r.finish(r.slot(at, 0));
            }
        }

        static void onRaise(Run r, int at) {
            long thing = r.slot(at, 0);
            if (Thing.sortOf(thing) == Thing.CLASS && Thing.valueOf(thing) != Types.NUMBER) {
                r.setArguments(0, Thing.NIL, Thing.NIL, Thing.NIL);
                r.setSlot(at, 0, r.types.addObject(Thing.valueOf(thing)));
                r.setPhase(at, Run.MAKING);
            } else {
                Leaver.raiseThing(r, thing);
            }
        }

        static void onSuper(Run r, int at, Node n) {
            int home = r.homeOf(at);
            Node defined = r.nodeAt(r.types.methods.intAt(r.frames.intAt(home, Run.METHOD), Types.NODE));
            if (n.name == 1) {
                r.setArguments(defined.mostArguments(), r.frames.at(home, Run.VALUES),
                        r.frames.at(home, Run.VALUES + 1), r.frames.at(home, Run.VALUES + 2));
            } else {
                takeArguments(r, at, n, 0);
            }
            clearFurther(r);
            r.receiver = r.frames.at(home, Run.SELF);
            r.given = r.frames.intAt(home, Run.GIVEN);
            r.finder.lineUp(r.receiver);
            int from = r.finder.indexOf(r.frames.intAt(home, Run.PLACE));
            boolean isRefined = r.frames.at(home, Run.IS_REFINED) == 1;
            r.finder.search(defined.name, n, isRefined ? from : from + 1, isRefined);
            if (r.finder.entry > 0) {
                r.setPhase(at, Run.PASS);
                invoke(r);
            } else {
                goWithout(r, at, defined.name);
            }
        }

        /** Arguments that are not there count as nil. */
        private static void clearFurther(Run r) {
            for (int i = Math.max(r.argumentCount, 0); i < r.arguments.length; i++) {
                r.arguments[i] = Thing.NIL;
            }
        }

        static void onProc(Run r, int at, Node n) {
            int closure = addClosure(r, at, n.part(0), r.refiningAt(r.frameOf(at)));
            r.closures.put(closure, Run.GIVEN_TO, 0);
            r.closures.put(closure, Run.IS_LAMBDA, n.name);
            r.finish(Thing.of(Thing.PROC, closure));
        }

        static void onYield(Run r, int at, Node n) {
            int home = r.homeOf(at);
            int block = r.frames.intAt(home, Run.GIVEN);
            if (block == 0) {
                r.fail(Types.BROKEN);
                return;
            }
            takeArguments(r, at, n, 0);
            r.setPhase(at, Run.PASS);
            callBlock(r, block);
        }

        private static void callBlock(Run r, int closure) {
            Node n = r.nodeAt(r.closures.intAt(closure, Run.MADE_OF));
            boolean isLambda = r.closures.at(closure, Run.IS_LAMBDA) == 1;
            if (isLambda && r.argumentCount != n.parameters()) {
                r.fail(Types.ERROR);
                return;
            }
            if (r.depth >= DEEPEST) {
                r.fail(Types.BROKEN);
                return;
            }
            r.depth++;
            int parent = r.closures.intAt(closure, Run.MADE_IN);
            int frame = r.addFrame(isLambda ? Run.IN_LAMBDA : Run.IN_BLOCK, r.frames.at(parent, Run.SELF),
                    r.frames.intAt(parent, Run.SCOPE));
            r.frames.put(frame, Run.PARENT, parent);
            r.frames.put(frame, Run.HOME, r.frames.at(parent, Run.HOME));
            r.frames.put(frame, Run.CLOSURE, closure);
            r.frames.put(frame, Run.REFINING, r.closures.at(closure, Run.MADE_REFINING));
            r.frames.put(frame, Run.MASK, (n.name >= 0 ? 1 << n.name : 0) | (n.sort >= 0 ? 1 << n.sort : 0));
            if (n.name >= 0) {
                r.frames.put(frame, Run.VALUES + n.name, r.arguments[0]);
            }
            if (n.sort >= 0) {
                r.frames.put(frame, Run.VALUES + n.sort, r.arguments[1]);
            }
            r.frames.put(frame, Run.BASE, r.open(Run.BLOCK_CALL, n.number, frame));
        }

        static void onBlock(Run r, int at, Node n) {
            if (r.stack.intAt(at, Run.PHASE) == BEGIN) {
                r.goOn(at, ANSWER, n.part(0));
            } else {
                r.finish(r.value);
            }
        }

        /** Calls the hook of a definition, if it is found: on the first slot, with the second one. */
        static void onHook(Run r, int at, Node n) {
            int hook = n.kind == Kind.MIX ? 4 : n.kind == Kind.DEFINE ? 5 : 3;
            r.receiver = r.slot(at, 0);
            r.given = 0;
            r.setArguments(1, r.slot(at, 1), Thing.NIL, Thing.NIL);
            r.setPhase(at, Run.HOOKED);
            r.finder.lineUp(r.receiver);
            r.finder.search(hook, n, 1, false);
            if (r.finder.entry > 0) {
                invoke(r);
            }
        }
    }

    /** Leaving, raising and throwing: all that goes through what is open from the inside out. */
    private static final class Leaver {
        static void onLeave(Run r, int at, Node n) {
            int frame = r.frameOf(at);
            int sort = r.frames.intAt(frame, Run.SORT);
            int loop = r.loopAround(frame);
            long told = r.slot(at, 0);
            if (n.name == 'r') {
                leaveHome(r, frame, told);
            } else if (loop > 0) {
                r.signalTo(n.name == 'b' ? Run.LEAVE : Run.AGAIN, loop, Thing.NIL);
            } else if (sort == Run.IN_LAMBDA || sort == Run.IN_BLOCK && n.name == 'n') {
                r.signalTo(Run.LEAVE, r.frames.intAt(frame, Run.BASE), told);
            } else if (sort == Run.IN_BLOCK) {
                leaveGiven(r, r.frames.intAt(frame, Run.CLOSURE), told);
            } else {
                r.fail(Types.BROKEN);
            }
        }

        /** Leaves the innermost lambda or the method around, or else the program. */
        private static void leaveHome(Run r, int frame, long told) {
            int home = frame;
            for (int i = 0; i <= MOST_STEPS && r.frames.intAt(home, Run.SORT) == Run.IN_BLOCK; i++) {
                home = r.frames.intAt(home, Run.PARENT);
            }
            int sort = r.frames.intAt(home, Run.SORT);
            if (sort != Run.IN_LAMBDA && sort != Run.IN_METHOD) {
                r.signalTo(Run.LEAVE, 0, told);
            } else if (r.frames.at(home, Run.IS_OVER) == 1) {
                r.fail(Types.BROKEN);
            } else {
                r.signalTo(Run.LEAVE, r.frames.intAt(home, Run.BASE), told);
            }
        }

        /** Leaves the call to which a block was given, if it is not over. */
        private static void leaveGiven(Run r, int closure, long told) {
            int call = r.closures.intAt(closure, Run.GIVEN_TO);
            boolean isOn = call > 0 && r.isOpen(call, Kind.CALL)
                    && r.stack.at(call, Run.BORN) == r.closures.at(closure, Run.GIVEN_AT);
            if (isOn) {
                r.signalTo(Run.LEAVE, call, told);
            } else {
                r.fail(Types.BROKEN);
            }
        }

        static void onRetry(Run r, int at) {
            int handled = r.around(r.frameOf(at), Kind.ATTEMPT, Run.HANDLER);
            if (handled > 0) {
                r.signalTo(Run.RETRY, handled, Thing.NIL);
            } else {
                r.fail(Types.BROKEN);
            }
        }

        static void onThrow(Run r, int at) {
            long tag = r.slot(at, 0);
            for (int i = at; i > 0; i--) {
                if (r.isOpen(i, Kind.CATCHES) && r.stack.intAt(i, Run.PHASE) == Run.PASS && r.slot(i, 0) == tag) {
                    r.signalTo(Run.LEAVE, i, r.slot(at, 1));
                    return;
                }
            }
            r.fail(Types.BROKEN);
        }

        static void raiseThing(Run r, long thing) {
            r.finder.lineUp(thing);
            if (r.finder.isInLine(Types.ERROR)) {
                raiseError(r, thing);
            } else {
                r.fail(Types.ERROR);
            }
        }

        /** Raises an object, with what the innermost handler got as its cause. */
        private static void raiseError(Run r, long thing) {
            r.signalTo(Run.RAISE, 0, thing);
            int object = Thing.valueOf(thing);
            for (int i = r.stack.last(); i > 0; i--) {
                if (r.isOpen(i, Kind.ATTEMPT) && r.stack.intAt(i, Run.PHASE) == Run.HANDLER) {
                    boolean isFree = r.types.objects.at(object, Types.CAUSE) == Thing.NIL;
                    if (isFree && r.slot(i, 0) != thing) {
                        r.types.objects.put(object, Types.CAUSE, r.slot(i, 0));
                    }
                    return;
                }
            }
        }

        static void onAttempt(Run r, int at, Node n) {
            int phase = r.stack.intAt(at, Run.PHASE);
            if (phase == Run.READY) {
                r.goOn(at, Run.BODY, n.part(0));
            } else if (phase == Run.BODY && n.part(2) >= 0) {
                r.goOn(at, Run.OTHER, n.part(2));
            } else if (phase == Run.LAST) {
                r.finish(r.slot(at, 0));
            } else if (phase == Run.PENDING) {
                r.signalTo((int) r.slot(at, 1), (int) r.slot(at, 2), r.slot(at, 0));
            } else if (n.part(3) >= 0) {
                r.setSlot(at, 0, r.value);
                r.goOn(at, Run.LAST, n.part(3));
            } else {
                r.finish(r.value);
            }
        }

        /** Takes the signal one open node further out. */
        static void unwind(Run r) {
            if (r.signal == Run.FAIL) {
                raiseError(r, r.types.addObject(r.target));
                return;
            }
            int at = r.stack.last();
            Node n = r.nodeAt(r.stack.intAt(at, Run.NODE));
            int phase = r.stack.intAt(at, Run.PHASE);
            if (at == 0) {
                r.end = r.signal == Run.RAISE ? 'e' : 'd';
            } else if (r.signal != Run.RAISE && at == r.target) {
                arrive(r, at, n);
            } else if (!r.isOpen(at, Kind.ATTEMPT) || phase >= Run.LAST) {
                r.close();
            } else if (phase != Run.BODY || r.signal != Run.RAISE || !gets(r, at, n)) {
                leaveAttempt(r, at, n);
            }
        }

        private static void arrive(Run r, int at, Node n) {
            int signal = r.signal;
            r.signal = Run.CALM;
            if (signal == Run.AGAIN) {
                Machine.turnAgain(r, at);
            } else if (signal == Run.RETRY) {
                r.goOn(at, Run.BODY, n.part(0));
            } else {
                r.finish(r.carried);
            }
        }

        /** Whether a try gets what is raised; its constant is worked out only now, and can raise in place of it. */
        private static boolean gets(Run r, int at, Node n) {
            int wanted = Types.ERROR;
            if (n.name >= 0) {
                int holder = r.finder.holderOf(r.scopeOf(at), n.name);
                long type = r.types.types.at(holder, Types.VALUES + n.name);
                wanted = Thing.isType(type) ? Thing.valueOf(type) : 0;
            }
            if (wanted == 0) {
                raiseError(r, r.types.addObject(Types.ERROR));
                return false;
            }
            r.finder.lineUp(r.carried);
            if (!r.finder.isInLine(wanted)) {
                return false;
            }
            r.signal = Run.CALM;
            r.setSlot(at, 0, r.carried);
            r.putLocal(r.frameOf(at), n.sort, r.carried);
            r.goOn(at, Run.HANDLER, n.part(1));
            return true;
        }

        /** Does the last part, if there is one, before the signal goes on. */
        private static void leaveAttempt(Run r, int at, Node n) {
            if (n.part(3) < 0) {
                r.close();
                return;
            }
            r.setSlot(at, 0, r.carried);
            r.setSlot(at, 1, r.signal);
            r.setSlot(at, 2, r.target);
            r.signal = Run.CALM;
            r.goOn(at, Run.PENDING, n.part(3));
        }
    }

    /** Definitions: classes, modules, methods, and what is mixed, refined and used. */
    private static final class Definer {
        static void onType(Run r, int at, Node n) {
            if (r.stack.intAt(at, Run.PHASE) == Run.HOOKED) {
                openBody(r, at, n, Thing.valueOf(r.slot(at, 1)));
                return;
            }
            boolean isModule = n.kind == Kind.MODULE;
            int around = r.innermostOf(at);
            boolean isHeld = r.types.holdsConstant(around, n.name);
            long there = isHeld ? r.types.types.at(around, Types.VALUES + n.name) : Thing.NIL;
            long above = n.part(0) >= 0 ? r.slot(at, 0) : r.types.thingOf(Types.OBJECT);
            int sort = Thing.sortOf(there);
            boolean isOther = sort == Thing.CLASS
                    && (isModule || r.types.aboveToOpen(Thing.valueOf(there)) != Thing.valueOf(above));
            if (Thing.sortOf(above) != Thing.CLASS || isOther) {
                r.fail(Types.ERROR);
            } else if (sort == (isModule ? Thing.MODULE : Thing.CLASS)) {
                openBody(r, at, n, Thing.valueOf(there));
            } else if (r.types.isFrozen(r.types.thingOf(around))) {
                r.fail(Types.FROZEN);
            } else {
                r.types.warnings += isHeld ? 1 : 0;
                addType(r, at, n, isModule ? 0 : Thing.valueOf(above));
            }
        }

        private static void addType(Run r, int at, Node n, int above) {
            boolean isModule = n.kind == Kind.MODULE;
            int type = r.types.addType(isModule, above);
            r.types.holdConstant(r.innermostOf(at), n.name, r.types.thingOf(type));
            r.setSlot(at, 0, r.types.thingOf(above));
            r.setSlot(at, 1, r.types.thingOf(type));
            r.setPhase(at, isModule ? Run.HOOKED : Run.HOOK);
        }

        private static void openBody(Run r, int at, Node n, int type) {
            int scope = r.types.addScope(type, r.scopeOf(at));
            r.setPhase(at, Run.PASS);
            r.begin(n.part(1), r.addFrame(Run.IN_BODY, r.types.thingOf(type), scope));
        }

        private static int visibilityOf(int kind) {
            return kind == 'r' ? Types.PRIVATE : kind == 'o' ? Types.PROTECTED : Types.PUBLIC;
        }

        private static void putEntry(Run r, int table, int message, int entry) {
            r.types.tables.put(table, Types.ENTRIES + message, entry);
            r.finder.definitions++;
        }

        static void onDefine(Run r, int at, Node n) {
            long message = Thing.of(Thing.MESSAGE, n.name);
            if (r.stack.intAt(at, Run.PHASE) == Run.HOOKED) {
                r.finish(message);
                return;
            }
            int frame = r.frameOf(at);
            int type = r.innermostOf(at);
            int refining = r.refiningAt(frame);
            if (refining == 0 && r.types.isFrozen(r.types.thingOf(type))) {
                r.fail(Types.FROZEN);
                return;
            }
            int method = r.types.addMethod(n.number, r.scopeOf(at));
            if (refining > 0) {
                putEntry(r, refining, n.name, method * 4 + Types.PUBLIC);
                r.finish(message);
            } else {
                int visibility = r.frames.intAt(frame, Run.VISIBILITY);
                putEntry(r, r.types.types.intAt(type, Types.PLACE), n.name, method * 4 + visibility);
                r.setSlot(at, 0, r.types.thingOf(type));
                r.setSlot(at, 1, message);
                r.setPhase(at, Run.HOOK);
            }
        }

        static void onDefineOn(Run r, int at, Node n) {
            long thing = r.slot(at, 0);
            if (r.types.isFrozen(thing)) {
                r.fail(Types.FROZEN);
                return;
            }
            Rows rows = r.types.rowsOf(thing);
            int row = Thing.valueOf(thing);
            if (rows.intAt(row, Types.OWN) == 0) {
                rows.put(row, Types.OWN, r.types.addTable(0));
            }
            int method = r.types.addMethod(n.number, r.scopeOf(at));
            putEntry(r, rows.intAt(row, Types.OWN), n.name, method * 4 + Types.PUBLIC);
            r.finish(Thing.of(Thing.MESSAGE, n.name));
        }

        static void onMix(Run r, int at, Node n) {
            if (r.stack.intAt(at, Run.PHASE) == Run.HOOKED) {
                r.finish(r.slot(at, 0));
                return;
            }
            boolean isExtending = n.name == 'e';
            long module = r.slot(at, 1);
            long around = r.types.thingOf(r.innermostOf(at));
            long thing = !isExtending ? around : n.part(0) >= 0 ? r.slot(at, 0) : r.selfOf(at);
            int row = Thing.valueOf(thing);
            if (Thing.sortOf(module) != Thing.MODULE || !isExtending && isWithin(r, row, Thing.valueOf(module))) {
                r.fail(Types.ERROR);
                return;
            }
            Rows rows = r.types.rowsOf(thing);
            int column = isExtending ? Types.EXTENDED : n.name == 'i' ? Types.INCLUDED : Types.AHEAD;
            if (!r.types.isLinked(rows, row, column, Thing.valueOf(module))) {
                if (r.types.isFrozen(thing)) {
                    r.fail(Types.FROZEN);
                    return;
                }
                r.types.addLink(rows, row, column, Thing.valueOf(module));
                r.finder.definitions++;
            }
            r.setSlot(at, 0, module);
            r.setSlot(at, 1, thing);
            r.setPhase(at, Run.HOOK);
        }

        /** Whether a type is in the lineage of a module. */
        private static boolean isWithin(Run r, int type, int module) {
            r.finder.lineUpType(module);
            return r.finder.isInLine(type);
        }

        /** Changes the entry of the innermost one, or raises: a NoMethod without an old one, a Frozen if it is frozen. */
        private static void change(Run r, int at, int message, int old, int fresh) {
            int type = r.innermostOf(at);
            if (old <= 0) {
                r.fail(Types.NO_METHOD);
            } else if (r.types.isFrozen(r.types.thingOf(type))) {
                r.fail(Types.FROZEN);
            } else {
                putEntry(r, r.types.types.intAt(type, Types.PLACE), message, fresh);
                r.finish(Thing.NIL);
            }
        }

        static void onAlias(Run r, int at, Node n) {
            r.finder.lineUpType(r.innermostOf(at));
            r.finder.search(n.sort, n, 1, false);
            change(r, at, n.name, r.finder.entry, r.finder.entry);
        }

        static void onUndefine(Run r, int at, Node n) {
            r.finder.lineUpType(r.innermostOf(at));
            r.finder.search(n.name, n, 1, false);
            change(r, at, n.name, r.finder.entry, Types.HIDDEN);
        }

        static void onHide(Run r, int at, Node n) {
            int table = r.types.types.intAt(r.innermostOf(at), Types.PLACE);
            int old = r.types.tables.intAt(table, Types.ENTRIES + n.name);
            change(r, at, n.name, old, (old >> 2) * 4 + visibilityOf(n.sort));
        }

        static void onVisibility(Run r, int at, Node n) {
            int frame = r.frameOf(at);
            if (r.frames.intAt(frame, Run.SORT) == Run.IN_BODY) {
                r.frames.put(frame, Run.VISIBILITY, visibilityOf(n.sort));
            }
            r.finish(Thing.NIL);
        }

        static void onRefine(Run r, int at, Node n) {
            long thing = r.slot(at, 0);
            int module = r.innermostOf(at);
            if (Thing.sortOf(thing) != Thing.CLASS || r.types.types.at(module, Types.IS_MODULE) != 1) {
                r.fail(Types.ERROR);
                return;
            }
            int table = r.types.refinementTable(Thing.valueOf(thing), module);
            if (table == 0) {
                table = r.types.addRefinement(Thing.valueOf(thing), module);
            }
            r.setSlot(at, 1, table);
            r.goOn(at, Run.PASS, n.part(1));
        }

        static void onUsing(Run r, int at, Node n) {
            long module = r.slot(at, 0);
            if (Thing.sortOf(module) == Thing.MODULE) {
                r.finder.addUsing(Thing.valueOf(module), n);
                r.finish(module);
            } else {
                r.fail(Types.ERROR);
            }
        }
    }
}
