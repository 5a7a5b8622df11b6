import java.util.List;

/** Calls of all kinds with numbers of all kinds: nothing but what the document names is thrown, and keeping changes nothing. */
public final class RandomTest extends Check {
    private static final List<String> NAMED = List.of("IllegalArgumentException", "IndexOutOfBoundsException", "UnsupportedOperationException",
            "IllegalStateException", "NoSuchElementException", "ArithmeticException");

    private long seed;
    private int nodes = 0;

    private RandomTest(long seed) {
        this.seed = seed * 7919 + 17;
    }

    public static void main(String[] args) {
        for (int i = 0; i < 3000; i++) {
            RandomTest t = new RandomTest(i);
            for (int j = 0; j < 500; j++) {
                t.step(i, j);
            }
        }
        end();
    }

    private int below(int bound) {
        seed = seed * 6364136223846793005L + 1442695040888963407L;
        return (int) ((seed >>> 33) % bound);
    }

    private int part() {
        int kind = below(100);
        return kind < 80 ? Math.max(0, nodes - 1 - below(4)) : kind < 97 ? -1 : kind < 98 ? Integer.MIN_VALUE : below(260) - 10;
    }

    private int number(int bound) {
        return below(60) == 0 ? below(3) * 1000 - 1000 : below(bound);
    }

    private char kind(String kinds) {
        return below(60) == 0 ? (char) below(256) : kinds.charAt(below(kinds.length()));
    }

    private void step(int run, int call) {
        int which = below(100);
        Object got = of(() -> which < 45 ? leaf() : which < 80 ? small() : which < 94 ? large() : ask());
        if (got instanceof Integer && which < 94) {
            nodes = (Integer) got + 1;
        }
        if (got instanceof String && !NAMED.contains(got)) {
            due("run " + run + ", call " + call, got, "an exception that the document names");
        }
    }

    private Object leaf() {
        switch (below(14)) {
            case 0: return y.number(below(3));
            case 1: return y.message(number(20));
            case 2: return y.plain(kind("NTFS"));
            case 3: return y.local(number(6));
            case 4: return y.field(number(6));
            case 5: return y.retry();
            case 6: return y.alias(number(20), number(20));
            case 7: return y.undefine(number(20));
            case 8: return y.visibility(kind("uro"));
            case 9: return y.hide(number(20), kind("uro"));
            case 10: return y.superCall(below(2) == 0, part(), -1);
            case 11: return y.yields(-1, -1);
            default: return y.constant(number(12));
        }
    }

    private Object small() {
        switch (below(18)) {
            case 0: return y.setLocal(number(6), part());
            case 1: return y.setField(number(6), part());
            case 2: return y.setConstant(number(12), part());
            case 3: return y.orSet(kind("lfc"), number(6), part());
            case 4: return y.block(number(3), number(6), number(6), part());
            case 5: return y.proc(part(), below(2) == 0);
            case 6: return y.leave(kind("bnr"), part());
            case 7: return y.raises(part());
            case 8: return y.moduleNode(6 + number(3), part());
            case 9: return y.freeze(part());
            case 10: return y.using(part());
            case 11: return y.responds(part(), number(20));
            case 12: return y.print(part());
            case 13: return y.define(number(20), number(3), -1, part());
            case 14: return y.classNode(6 + number(6), -1, part());
            case 15: return y.mix(kind("ip"), -1, part());
            default: return y.both(part(), part());
        }
    }

    private Object large() {
        switch (below(16)) {
            case 0: return y.safeCall(part(), number(20), part(), -1);
            case 1: return y.yields(part(), part());
            case 2: return y.choice(part(), part(), part());
            case 3: return y.loop(part(), part());
            case 4: return y.attempt(part(), number(12), number(6), part(), part(), part());
            case 5: return y.catches(part(), part());
            case 6: return y.throwsTo(part(), part());
            case 7: return y.classNode(number(12), part(), part());
            case 8: return y.define(number(20), number(3), part(), part());
            case 9: return y.defineOn(part(), number(20), number(3), part(), part());
            case 10: return y.mix(kind("ipe"), part(), part());
            case 11: return y.refine(part(), part());
            case 12: return y.isA(part(), part());
            default: return y.call(part(), number(20), part(), part(), part());
        }
    }

    private Object ask() {
        switch (below(20)) {
            case 0: return y.setFile(number(4));
            case 1: return y.setKeeping(below(4) > 0);
            case 2: return y.kindAt(below(8) - 1);
            case 3: return y.valueAt(below(8) - 1);
            case 4: return y.raised();
            case 5: return y.lineage(below(10) - 1);
            case 6: return y.lineageAt(below(8), below(4) - 1);
            case 7: return y.ownerOf(below(8), number(20));
            case 8: return y.hitShare();
            case 9: return y.hitBits();
            case 10: return y.meanLineage();
            case 11: return y.hits() + y.misses() + y.definitions() + y.warnings() + y.steps() + y.printed() + y.classes() + y.sum();
            case 12: case 13: return same(part());
            default: return y.run(part(), number(3000));
        }
    }

    private Object same(int node) {
        boolean is = y.isSame(node);
        due("62: the same with and without keeping", is, true);
        return is;
    }
}
