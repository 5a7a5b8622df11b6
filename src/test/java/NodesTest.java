/** Promises 1 to 44: what nodes can be made of, and which exception comes first. */
public final class NodesTest extends Check {
    /** Makes a node of one kind; the arguments that are no parts may be spoiled. */
    interface Maker {
        int make(OpenclassYard y, int[] parts);
    }

    private static final String IAE = "IllegalArgumentException";
    private static final String IOOBE = "IndexOutOfBoundsException";
    private static final String UOE = "UnsupportedOperationException";
    private static final String ISE = "IllegalStateException";

    public static void main(String[] args) {
        newObject();
        leaves();
        numbers();
        parts();
        blocks();
        arguments();
        missable();
        nodeNought();
        order();
        nothingChanges();
        files();
        end();
    }

    private static void newObject() {
        OpenclassYard y = new OpenclassYard();
        due("1: no nodes", of(() -> y.run(0, 10)), IOOBE);
        due("1: classes", y.classes(), 0);
        due("1: steps", y.steps(), 0);
        due("1: printed", y.printed(), 0);
        due("1: first node", y.number(7), 0);
        due("1: second node", y.number(7), 1);
    }

    private static void leaf(String what, Maker good, Maker... bad) {
        OpenclassYard y = new OpenclassYard();
        due(what + " 0", good.make(y, null), 0);
        due(what + " 1", good.make(y, null), 1);
        for (Maker maker : bad) {
            due(what + " wrong", of(() -> maker.make(y, null)), IAE);
        }
        while (y.number(0) < 239) {
            due(what + " goes on", y.steps(), 0);
        }
        due(what + " full", of(() -> good.make(y, null)), ISE);
        for (Maker maker : bad) {
            due(what + " wrong and full", of(() -> maker.make(y, null)), IAE);
        }
    }

    private static void leaves() {
        leaf("2", (y, p) -> y.number(Integer.MIN_VALUE));
        leaf("3", (y, p) -> y.message(19), (y, p) -> y.message(20), (y, p) -> y.message(-1));
        leaf("4", (y, p) -> y.plain('S'), (y, p) -> y.plain('s'), (y, p) -> y.plain((char) 0));
        leaf("5", (y, p) -> y.local(5), (y, p) -> y.local(6), (y, p) -> y.local(-1));
        leaf("7", (y, p) -> y.field(5), (y, p) -> y.field(6), (y, p) -> y.field(Integer.MIN_VALUE));
        leaf("9", (y, p) -> y.constant(11), (y, p) -> y.constant(12), (y, p) -> y.constant(-1));
        leaf("24", (y, p) -> y.retry());
        leaf("32", (y, p) -> y.alias(0, 19), (y, p) -> y.alias(20, 0), (y, p) -> y.alias(0, -1));
        leaf("33", (y, p) -> y.undefine(19), (y, p) -> y.undefine(20), (y, p) -> y.undefine(-1));
        leaf("34", (y, p) -> y.visibility('o'), (y, p) -> y.visibility('p'), (y, p) -> y.visibility('U'));
        leaf("35", (y, p) -> y.hide(19, 'r'), (y, p) -> y.hide(20, 'r'), (y, p) -> y.hide(0, 'x'));
        leaf("14", (y, p) -> y.superCall(true, 77, -5));
        leaf("17", (y, p) -> y.yields(-1, -1));
        leaf("18", (y, p) -> y.leave('n', -1), (y, p) -> y.leave('x', -1), (y, p) -> y.leave('B', -1));
        leaf("12", (y, p) -> y.call(-1, 19, -1, -1, -1), (y, p) -> y.call(-1, 20, -1, -1, -1), (y, p) -> y.call(-1, -1, -1, -1, -1));
    }

    /** Each wrong number comes before parts that are not there. */
    private static void numbers() {
        OpenclassYard y = new OpenclassYard();
        Call[] calls = {
            () -> y.setLocal(6, 9), () -> y.setLocal(-1, 9), () -> y.setField(6, 9), () -> y.setField(-1, 9),
            () -> y.setConstant(12, 9), () -> y.setConstant(-1, 9), () -> y.orSet('x', 0, 9), () -> y.orSet('l', 6, 9),
            () -> y.orSet('f', 6, 9), () -> y.orSet('c', 12, 9), () -> y.orSet('c', -1, 9), () -> y.call(9, 20, 9, 9, 9),
            () -> y.call(9, -1, 9, 9, 9), () -> y.safeCall(9, 20, 9, 9), () -> y.safeCall(9, -1, 9, 9),
            () -> y.block(3, 0, 1, 9), () -> y.block(-1, 0, 1, 9), () -> y.block(1, 6, 1, 9), () -> y.block(1, -1, 1, 9),
            () -> y.block(2, 0, 6, 9), () -> y.block(2, 3, 3, 9), () -> y.leave('x', 9), () -> y.attempt(9, 12, 0, 9, 9, 9),
            () -> y.attempt(9, -2, 0, 9, 9, 9), () -> y.attempt(9, 0, 6, 9, 9, 9), () -> y.attempt(9, 0, -1, 9, 9, 9),
            () -> y.classNode(12, 9, 9), () -> y.classNode(-1, 9, 9), () -> y.moduleNode(12, 9), () -> y.moduleNode(-1, 9),
            () -> y.define(20, 0, 9, 9), () -> y.define(-1, 0, 9, 9), () -> y.define(0, 3, 9, 9), () -> y.define(0, -1, 9, 9),
            () -> y.defineOn(9, 20, 0, 9, 9), () -> y.defineOn(9, 0, 3, 9, 9), () -> y.defineOn(9, 0, -1, 9, 9),
            () -> y.mix('x', 9, 9), () -> y.responds(9, 20), () -> y.responds(9, -1),
        };
        for (int i = 0; i < calls.length; i++) {
            due("wrong number " + i, of(calls[i]), IAE);
        }
        due("11: a constant can be 11", of(() -> y.orSet('c', 11, 9)), IOOBE);
        due("15: locals without parameters", of(() -> y.block(0, 77, 77, 9)), IOOBE);
        due("15: a local without a second parameter", of(() -> y.block(1, 0, 77, 9)), IOOBE);
    }

    /** The makers that have parts: n for one that is needed, m for one that may be missing, f and s for a first and a second argument. */
    private static void parts() {
        part("6", "n", (y, p) -> y.setLocal(0, p[0]));
        part("8", "n", (y, p) -> y.setField(0, p[0]));
        part("10", "n", (y, p) -> y.setConstant(0, p[0]));
        part("11", "n", (y, p) -> y.orSet('f', 0, p[0]));
        part("12", "mfs", (y, p) -> y.call(p[0], 7, p[1], p[2], -1));
        part("13", "nfs", (y, p) -> y.safeCall(p[0], 7, p[1], p[2]));
        part("14", "fs", (y, p) -> y.superCall(false, p[0], p[1]));
        part("15", "n", (y, p) -> y.block(2, 0, 1, p[0]));
        part("17", "fs", (y, p) -> y.yields(p[0], p[1]));
        part("18", "m", (y, p) -> y.leave('b', p[0]));
        part("19", "nn", (y, p) -> y.both(p[0], p[1]));
        part("20", "nnm", (y, p) -> y.choice(p[0], p[1], p[2]));
        part("21", "nn", (y, p) -> y.loop(p[0], p[1]));
        part("22", "n", (y, p) -> y.raises(p[0]));
        part("23", "nnmm", (y, p) -> y.attempt(p[0], -1, 0, p[1], p[2], p[3]));
        part("25", "nn", (y, p) -> y.catches(p[0], p[1]));
        part("26", "nn", (y, p) -> y.throwsTo(p[0], p[1]));
        part("27", "mn", (y, p) -> y.classNode(0, p[0], p[1]));
        part("28", "n", (y, p) -> y.moduleNode(0, p[0]));
        part("29", "mn", (y, p) -> y.define(0, 0, p[0], p[1]));
        part("30", "nmn", (y, p) -> y.defineOn(p[0], 0, 0, p[1], p[2]));
        part("31", "mn", (y, p) -> y.mix('e', p[0], p[1]));
        part("31", "n", (y, p) -> y.mix('i', 77, p[0]));
        part("31", "n", (y, p) -> y.mix('p', -9, p[0]));
        part("36", "n", (y, p) -> y.freeze(p[0]));
        part("37", "nn", (y, p) -> y.refine(p[0], p[1]));
        part("38", "n", (y, p) -> y.using(p[0]));
        part("39", "nn", (y, p) -> y.isA(p[0], p[1]));
        part("40", "n", (y, p) -> y.responds(p[0], 0));
        part("41", "n", (y, p) -> y.print(p[0]));
    }

    private static void part(String what, String wants, Maker maker) {
        int count = wants.length();
        for (int i = 0; i < count; i++) {
            wrongPart(what, i, maker);
            missingPart(what, wants, i, maker);
            OpenclassYard y = filled(10);
            y.print(3);
            int[] taken = {4, 5, 6, 7};
            taken[i] = 3;
            due(what + " part " + i + " is taken", of(() -> maker.make(y, taken)), UOE);
            for (int j = 0; j < i; j++) {
                int[] twice = {4, 5, 6, 7};
                twice[i] = twice[j];
                due(what + " parts " + i + " and " + j, of(() -> maker.make(y, twice)), UOE);
            }
            due(what + " is made behind it", maker.make(y, new int[] {4, 5, 6, 7}), 11);
            int part = 4 + i;
            due(what + " has its part " + i, of(() -> y.print(part)), UOE);
        }
        OpenclassYard full = filled(240);
        due(what + " full", of(() -> maker.make(full, new int[] {0, 1, 2, 3})), ISE);
        due(what + " full, and twice the same", of(() -> maker.make(full, new int[] {0, 0, 0, 0})), count > 1 ? UOE : ISE);
        due(what + " full, and no such part", of(() -> maker.make(full, new int[] {240, 1, 2, 3})), IOOBE);
        OpenclassYard almost = filled(239);
        due(what + " is the last one", maker.make(almost, new int[] {0, 1, 2, 3}), 239);
        due(what + " is followed by none", of(() -> almost.number(0)), ISE);
    }

    private static void wrongPart(String what, int i, Maker maker) {
        for (int bad : new int[] {-2, 11, 99, Integer.MAX_VALUE, Integer.MIN_VALUE, 10}) {
            OpenclassYard y = filled(10);
            y.block(0, 0, 0, 9);
            int[] parts = {0, 1, 2, 3};
            parts[i] = bad;
            due(what + " part " + i + " is " + bad, of(() -> maker.make(y, parts)), IOOBE);
        }
    }

    private static void missingPart(String what, String wants, int i, Maker maker) {
        OpenclassYard y = filled(10);
        int[] parts = {0, 1, 2, 3};
        parts[i] = -1;
        boolean isRefused = wants.charAt(i) == 'n' || wants.charAt(i) == 'f';
        due(what + " part " + i + " is missing", of(() -> maker.make(y, parts)), isRefused ? (Object) IOOBE : 10);
        if (wants.charAt(i) == 'f') {
            parts[i + 1] = -1;
            due(what + " both arguments are missing", maker.make(y, parts), 10);
        }
    }

    private static OpenclassYard filled(int nodes) {
        OpenclassYard y = new OpenclassYard();
        for (int i = 0; i < nodes; i++) {
            y.number(i);
        }
        return y;
    }

    private static void blocks() {
        OpenclassYard y = filled(4);
        int block = y.block(0, 0, 0, 0);
        due("16: no block", of(() -> y.proc(1, false)), IOOBE);
        due("16: no node", of(() -> y.proc(-1, false)), IOOBE);
        due("12: no block", of(() -> y.call(-1, 7, -1, -1, 1)), IOOBE);
        due("12: a block as an argument", of(() -> y.call(-1, 7, block, -1, -1)), IOOBE);
        due("44: a block is not run", of(() -> y.run(block, 10)), IOOBE);
        due("62: a block is not run", of(() -> y.isSame(block)), IOOBE);
        due("12: a block", y.call(-1, 7, -1, -1, block), 5);
        due("16: a block that is a part", of(() -> y.proc(block, true)), UOE);
        due("12: a block that is a part", of(() -> y.call(-1, 7, -1, -1, block)), UOE);
        int other = y.block(0, 0, 0, 1);
        due("16: a proc", y.proc(other, true), 7);
        OpenclassYard full = filled(238);
        int last = full.block(0, 0, 0, 5);
        full.number(0);
        due("16: full", of(() -> full.proc(last, true)), ISE);
        due("12: full", of(() -> full.call(-1, 7, -1, -1, last)), ISE);
    }

    private static void arguments() {
        OpenclassYard y = filled(3);
        due("12: a second argument alone", of(() -> y.call(-1, 7, -1, 0, -1)), IOOBE);
        due("13: a second argument alone", of(() -> y.safeCall(0, 7, -1, 1)), IOOBE);
        due("14: a second argument alone", of(() -> y.superCall(false, -1, 1)), IOOBE);
        due("17: a second argument alone", of(() -> y.yields(-1, 1)), IOOBE);
        due("14: as now", y.superCall(true, -1, 1), 3);
        due("14: as now leaves parts alone", y.print(1), 4);
    }

    private static void missable() {
        OpenclassYard y = filled(40);
        due("13: needs a receiver", of(() -> y.safeCall(-1, 7, -1, -1)), IOOBE);
        due("20: needs a condition", of(() -> y.choice(-1, 0, 1)), IOOBE);
        due("20: needs a yes", of(() -> y.choice(0, -1, 1)), IOOBE);
        due("20: needs no no", y.choice(0, 1, -1), 40);
        due("21: needs both", of(() -> y.loop(2, -1)), IOOBE);
        due("19: needs both", of(() -> y.both(-1, 2)), IOOBE);
        due("23: needs a body", of(() -> y.attempt(-1, 0, 0, 2, 3, 4)), IOOBE);
        due("23: needs a handler", of(() -> y.attempt(2, 0, 0, -1, 3, 4)), IOOBE);
        due("23: needs no more", y.attempt(2, -1, 0, 3, -1, -1), 41);
        due("27: needs a body", of(() -> y.classNode(0, 4, -1)), IOOBE);
        due("27: needs nothing above", y.classNode(0, -1, 4), 42);
        due("28: needs a body", of(() -> y.moduleNode(0, -1)), IOOBE);
        due("29: needs a body", of(() -> y.define(0, 0, 5, -1)), IOOBE);
        due("29: needs no default", y.define(0, 0, -1, 5), 43);
        due("30: needs a thing", of(() -> y.defineOn(-1, 0, 0, -1, 6)), IOOBE);
        due("30: needs a body", of(() -> y.defineOn(6, 0, 0, 7, -1)), IOOBE);
        due("30: needs no default", y.defineOn(6, 0, 0, -1, 7), 44);
        due("31: needs a module", of(() -> y.mix('e', 8, -1)), IOOBE);
        due("31: needs no thing", y.mix('e', -1, 8), 45);
        due("18: needs no value", y.leave('r', -1), 46);
        due("22: needs a value", of(() -> y.raises(-1)), IOOBE);
        due("41: needs a thing", of(() -> y.print(-1)), IOOBE);
        due("36: needs a thing", of(() -> y.freeze(-1)), IOOBE);
        due("38: needs a module", of(() -> y.using(-1)), IOOBE);
        due("11: needs a value", of(() -> y.orSet('l', 0, -1)), IOOBE);
    }

    /** Node 0 is a part like any other, also where a part may be left out. */
    private static void nodeNought() {
        NodesTest t = new NodesTest();
        int seven = t.n(7);
        due("20: no", t.run(t.p(t.y.choice(t.nil(), t.n(1), seven))), "d n7");
        NodesTest u = new NodesTest();
        int eight = u.n(8);
        due("29: default", u.run(u.y.define(7, 0, eight, u.l(0)), u.p(u.send(7))), "d n8");
        NodesTest v = new NodesTest();
        int nine = v.n(9);
        due("23: other", v.run(v.p(v.y.attempt(v.n(1), -1, 0, v.n(2), nine, -1))), "d n9");
        NodesTest w = new NodesTest();
        int last = w.y.leave('r', -1);
        due("23: last", w.run(w.y.attempt(w.n(1), -1, 0, w.n(2), -1, last), w.p(w.n(3))), "d");
        NodesTest e = new NodesTest();
        int behind = e.y.leave('r', -1);
        due("23: last, behind what is raised", e.run(e.y.attempt(e.c(6), 3, 0, e.n(2), -1, behind), e.p(e.n(3))), "d");
        NodesTest x = new NodesTest();
        int receiver = x.n(3);
        due("12: receiver", x.run(x.p(x.call(receiver, 10, x.n(4)))), "d n7");
        NodesTest z = new NodesTest();
        int first = z.n(3);
        due("12: argument", z.run(z.p(z.call(z.n(5), 10, first))), "d n8");
        NodesTest d = new NodesTest();
        int second = d.n(4);
        due("12: second argument", d.run(d.define(7, 2, d.l(1)), d.p(d.send(7, d.n(5), second))), "d n4");
        NodesTest a = new NodesTest();
        int above = a.c(2);
        due("27: above", a.run(a.y.classNode(6, above, a.nil()), a.p(a.y.isA(a.fresh(6), a.c(2)))), "d T");
        NodesTest b = new NodesTest();
        int extended = b.c(2);
        due("31: thing", b.run(b.module(6, b.y.mix('e', extended, b.self())), b.p(b.y.isA(b.c(2), b.c(6))), b.p(b.y.isA(b.c(6), b.c(6)))), "d T F");
        NodesTest c = new NodesTest();
        int told = c.n(5);
        due("18: value", c.run(c.define(7, c.y.leave('r', told)), c.p(c.send(7))), "d n5");
    }

    /** Of several exceptions, the one that is listed first. */
    private static void order() {
        OpenclassYard y = filled(239);
        y.print(0);
        due("number before node", of(() -> y.setLocal(6, 500)), IAE);
        due("number before part", of(() -> y.setLocal(6, 0)), IAE);
        due("node before part", of(() -> y.both(0, 500)), IOOBE);
        due("node before part, the other way", of(() -> y.both(500, 0)), IOOBE);
        due("part before full", of(() -> y.both(0, 1)), UOE);
        due("the same before full", of(() -> y.both(1, 1)), UOE);
        due("full", of(() -> y.both(1, 2)), ISE);
        due("44: node before limit", of(() -> y.run(240, 0)), IOOBE);
        due("44: limit", of(() -> y.run(239, 0)), IAE);
        due("44: limit", of(() -> y.run(239, 5001)), IAE);
        due("44: limit", y.run(239, 5000), 'd');
        due("44: limit", y.run(239, 1), 'l');
        due("44: part", y.run(0, 1), 'd');
    }

    private static void nothingChanges() {
        OpenclassYard y = filled(3);
        due("taken", of(() -> y.choice(0, 1, 77)), IOOBE);
        due("same", of(() -> y.choice(0, 1, 1)), UOE);
        due("none of them is taken", y.choice(0, 1, 2), 3);
        due("numbers go on", y.number(1), 4);
        due("42: no file", of(() -> y.setFile(4)), IAE);
        due("42: the file is as it was", y.setFile(1), 0);
        due("44: a run", y.run(3, 100), 'd');
        due("44: no run", of(() -> y.run(3, 0)), IAE);
        due("44: the last run stays", y.steps(), 3);
    }

    private static void files() {
        OpenclassYard y = new OpenclassYard();
        due("42: at first", y.setFile(3), 0);
        due("42: then", y.setFile(0), 3);
        due("42: below", of(() -> y.setFile(-1)), IAE);
        due("43: at first", y.setKeeping(true), true);
        due("43: still", y.setKeeping(false), true);
        due("43: then", y.setKeeping(true), false);
    }
}
