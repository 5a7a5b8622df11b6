/** The promises 1 to 62 one by one: what each of them names as too small, too large, missing, empty, full or refused. */
public final class PromisesTest extends Check {
    /** Makes a node with one number that may be out of range. */
    interface Ranged {
        int make(OpenclassYard y, int number);
    }

    /** Makes a node of a kind that may not be there. */
    interface Kinded {
        int make(OpenclassYard y, char kind);
    }

    private static final String IAE = "IllegalArgumentException";
    private static final String IOOBE = "IndexOutOfBoundsException";
    private static final String UOE = "UnsupportedOperationException";
    private static final String NSEE = "NoSuchElementException";
    private static final String AE = "ArithmeticException";

    public static void main(String[] args) {
        newObject();
        ranges();
        kinds();
        leftOut();
        everyNumberMeansItself();
        plainThings();
        fieldsOfThingsWithout();
        settings();
        conditionalSettings();
        safeCalls();
        supersOutOfMethods();
        supersAsNow();
        blocks();
        leaving();
        choices();
        attempts();
        modules();
        definitions();
        ownPlaces();
        mixings();
        aliases();
        undefinings();
        visibilities();
        hidings();
        freezing();
        refinements();
        usings();
        questions();
        switches();
        runs();
        nothingRun();
        printedThings();
        raised();
        lineages();
        owners();
        shares();
        means();
        same();
        end();
    }

    private static void newObject() {
        OpenclassYard y = new OpenclassYard();
        due("1: nothing was run", y.steps() + y.printed() + y.classes() + y.hits() + y.misses() + y.definitions() + y.warnings(), 0);
        due("1: without nodes", of(() -> y.print(0)), IOOBE);
        due("1: the first node", y.plain('N'), 0);
        due("1: objects do not know one another", new OpenclassYard().plain('N'), 0);
    }

    private static void range(String what, int least, int most, Ranged maker) {
        for (int number = least; number <= most; number++) {
            int good = number;
            OpenclassYard y = filled();
            due(what + " can be " + good, of(() -> maker.make(y, good)), 8);
        }
        for (int number : new int[] {least - 1, most + 1, Integer.MIN_VALUE, Integer.MAX_VALUE}) {
            OpenclassYard y = filled();
            due(what + " cannot be " + number, of(() -> maker.make(y, number)), IAE);
            due(what + " then changes nothing", y.both(0, 1), 8);
        }
    }

    /** Eight nodes, the last of which is a block. */
    private static OpenclassYard filled() {
        OpenclassYard y = new OpenclassYard();
        for (int i = 0; i < 7; i++) {
            y.number(i);
        }
        y.block(0, 0, 0, 6);
        return y;
    }

    private static void ranges() {
        range("3: the message", 0, 19, (y, n) -> y.message(n));
        range("5: the local", 0, 5, (y, n) -> y.local(n));
        range("6: the local", 0, 5, (y, n) -> y.setLocal(n, 0));
        range("7: the field", 0, 5, (y, n) -> y.field(n));
        range("8: the field", 0, 5, (y, n) -> y.setField(n, 0));
        range("9: the constant", 0, 11, (y, n) -> y.constant(n));
        range("10: the constant", 0, 11, (y, n) -> y.setConstant(n, 0));
        range("11: a local", 0, 5, (y, n) -> y.orSet('l', n, 0));
        range("11: a field", 0, 5, (y, n) -> y.orSet('f', n, 0));
        range("11: a constant", 0, 11, (y, n) -> y.orSet('c', n, 0));
        range("12: the message", 0, 19, (y, n) -> y.call(-1, n, -1, -1, 7));
        range("13: the message", 0, 19, (y, n) -> y.safeCall(0, n, -1, -1));
        range("15: the number of parameters", 0, 2, (y, n) -> y.block(n, 4, 5, 0));
        range("15: the first local", 0, 5, (y, n) -> y.block(1, n, 99, 0));
        range("15: the first local of two", 0, 4, (y, n) -> y.block(2, n, 5, 0));
        range("15: the second local", 1, 5, (y, n) -> y.block(2, 0, n, 0));
        range("23: the constant", -1, 11, (y, n) -> y.attempt(0, n, 0, 1, 2, 3));
        range("23: the local", 0, 5, (y, n) -> y.attempt(0, 0, n, 1, -1, -1));
        range("27: the constant", 0, 11, (y, n) -> y.classNode(n, -1, 0));
        range("28: the constant", 0, 11, (y, n) -> y.moduleNode(n, 0));
        range("29: the message", 0, 19, (y, n) -> y.define(n, 2, -1, 0));
        range("29: the number of needed parameters", 0, 2, (y, n) -> y.define(19, n, 1, 0));
        range("30: the message", 0, 19, (y, n) -> y.defineOn(0, n, 0, 1, 2));
        range("30: the number of needed parameters", 0, 2, (y, n) -> y.defineOn(0, 0, n, -1, 2));
        range("32: the new message", 0, 19, (y, n) -> y.alias(n, 0));
        range("32: the old message", 0, 19, (y, n) -> y.alias(19, n));
        range("33: the message", 0, 19, (y, n) -> y.undefine(n));
        range("35: the message", 0, 19, (y, n) -> y.hide(n, 'u'));
        range("40: the message", 0, 19, (y, n) -> y.responds(0, n));
    }

    private static void kind(String what, String kinds, Kinded maker) {
        for (int sign = 0; sign < 400; sign++) {
            char kind = (char) (sign == 399 ? Character.MAX_VALUE : sign);
            OpenclassYard y = filled();
            due(what + " " + (int) kind, of(() -> maker.make(y, kind)), kinds.indexOf(kind) >= 0 ? (Object) 8 : IAE);
        }
    }

    private static void kinds() {
        kind("4: a kind", "NTFS", (y, k) -> y.plain(k));
        kind("11: a kind", "lfc", (y, k) -> y.orSet(k, 0, 0));
        kind("18: a kind", "bnr", (y, k) -> y.leave(k, -1));
        kind("31: a kind", "ipe", (y, k) -> y.mix(k, -1, 0));
        kind("34: a kind", "uro", (y, k) -> y.visibility(k));
        kind("35: a kind", "uro", (y, k) -> y.hide(0, k));
    }

    private static void leftOut() {
        OpenclassYard y = filled();
        due("12: a second argument without a first one", of(() -> y.call(0, 7, -1, 1, -1)), IOOBE);
        due("13: a second argument without a first one", of(() -> y.safeCall(0, 7, -1, 1)), IOOBE);
        due("14: a second argument without a first one", of(() -> y.superCall(false, -1, 1)), IOOBE);
        due("17: a second argument without a first one", of(() -> y.yields(-1, 1)), IOOBE);
        due("15: a block is a part of a call or a proc alone", of(() -> y.both(7, 0)) + " " + of(() -> y.yields(7, -1)) + " " + of(() -> y.block(0, 0, 0,
                7)) + " " + of(() -> y.call(7, 7, -1, -1, -1)) + " " + of(() -> y.safeCall(7, 7, -1, -1)),
                (IOOBE + " ").repeat(5).trim());
        due("12: what is given is a block", of(() -> y.call(-1, 7, -1, -1, 0)), IOOBE);
        due("16: what it is made of is a block", of(() -> y.proc(0, false)), IOOBE);
        due("12: a block", y.call(-1, 7, 0, 1, 7), 8);
        due("15: a block is a part of one other node only", of(() -> y.proc(7, false)), UOE);
        due("12: an argument is one, too", of(() -> y.print(1)), UOE);
        due("31: the thing is of no meaning but for e", y.mix('i', 99, 2) + " " + y.mix('p', 0, 3), "9 10");
        due("31: it is left alone then", of(() -> y.mix('e', 99, 4)) + " " + y.mix('e', 8, 4), IOOBE + " 11");
        due("14: arguments are of no meaning if they are as now", y.superCall(true, 99, 0), 12);
    }

    private static void everyNumberMeansItself() {
        for (int number = 0; number < 20; number++) {
            PromisesTest t = new PromisesTest();
            int other = (number + 1) % 20;
            due("3 12 29 40: message " + number, t.run(t.p(t.define(number, 1, t.n(5))), t.p(t.message(number)), t.p(t.y.responds(t.nil(), number)),
                    t.p(t.y.responds(t.nil(), other)), t.p(t.call(t.nil(), number, t.n(1)))), "d s" + number + " s" + number + " T F n5");
            due("53: message " + number, t.y.ownerOf(5, number), 0);
        }
        for (int number = 0; number < 6; number++) {
            PromisesTest t = new PromisesTest();
            due("5 6 15: local " + number, t.run(t.p(t.set(number, t.n(5))), t.p(t.l(number)), t.p(t.l((number + 1) % 6)),
                    t.call(t.proc(t.block(number, t.p(t.l(number)))), 15, t.n(6)), t.p(t.l(number))), "d n5 n5 N n6 n5");
            PromisesTest u = new PromisesTest();
            due("11 23: local " + number, u.run(u.p(u.y.orSet('l', number, u.n(5))), u.p(u.l(number)), u.y.attempt(u.c(6), -1, number, u.p(u.l(number)), -1, -1)),
                    "d n5 n5 o2");
        }
        for (int number = 0; number < 12; number++) {
            PromisesTest t = new PromisesTest();
            due("9 10: constant " + number, t.run(t.p(t.y.setConstant(number, t.n(5))), t.p(t.c(number))), "d n5 n5");
            due("57: warnings", t.y.warnings(), number < 6 ? 1 : 0);
            PromisesTest u = new PromisesTest();
            due("27 28: constant " + number, u.run(u.module(9, u.seq(u.type(number, u.p(u.self())), u.p(u.c(number)))),
                    u.type(11, u.seq(u.module(number, u.p(u.self())), u.p(u.c(number))))), "d c7 c7 m9 m9");
        }
    }

    private static void plainThings() {
        PromisesTest t = new PromisesTest();
        due("4: nil, true, false, self", t.run(t.p(t.nil()), t.p(t.yes()), t.p(t.no()), t.type(6, t.p(t.self()))), "d N T F c6");
    }

    private static void fieldsOfThingsWithout() {
        PromisesTest t = new PromisesTest();
        int all = t.define(7, t.p(t.y.field(0)));
        for (int thing : new int[] {t.nil(), t.yes(), t.no(), t.n(1), t.message(1), t.proc(t.block(t.nil()))}) {
            all = t.seq(all, t.call(thing, 7));
        }
        due("7: nil if self has none", t.run(all), "d N N N N N N");
        PromisesTest u = new PromisesTest();
        due("7 8: fields are of the thing, not of its class, and what is frozen keeps them", u.run(u.define(7, u.y.field(0)), u.define(8, 1, u.y.setField(0, u.l(0))),
                u.set(0, u.fresh(0)), u.p(u.call(u.l(0), 8, u.n(1))), u.p(u.call(u.fresh(0), 7)), u.y.freeze(u.l(0)), u.p(u.call(u.l(0), 7))), "d n1 N n1");
    }

    private static void settings() {
        PromisesTest t = new PromisesTest();
        due("10: of the innermost class or module around", t.run(t.y.setConstant(9, t.n(0)), t.module(6, t.type(7, t.p(t.y.setConstant(9, t.n(7))))),
                t.module(6, t.p(t.c(9))), t.p(t.c(9))), "d n7 n0 n0");
        due("10: set elsewhere, no warning", t.y.warnings(), 0);
        PromisesTest u = new PromisesTest();
        due("10: set there already", u.run(u.y.setConstant(9, u.nil()), u.y.setConstant(9, u.nil()), u.y.setConstant(9, u.n(1)), u.y.setConstant(5, u.c(5)),
                u.type(6, u.nil()), u.y.setConstant(6, u.c(6))), "d");
        due("10: each time a warning", u.y.warnings(), 4);
    }

    private static void conditionalSettings() {
        for (char kind : new char[] {'l', 'f', 'c'}) {
            PromisesTest t = new PromisesTest();
            due("11: gives what is there, if this is true " + kind, t.run(t.type(6, t.seq(t.p(t.y.orSet(kind, 4, t.n(1))), t.p(t.y.orSet(kind, 4, t.p(t.n(2)))),
                    t.p(t.y.orSet(kind, 4, t.p(t.n(3))))))), kind == 'c' ? "d c4 c4 c4" : "d n1 n1 n1");
        }
        PromisesTest u = new PromisesTest();
        due("11: otherwise it sets it, also what is false", u.run(u.type(6, u.seq(u.set(0, u.no()), u.p(u.y.orSet('l', 0, u.no())), u.p(u.y.orSet('l', 0, u.n(1))),
                u.y.setField(0, u.no()), u.p(u.y.orSet('f', 0, u.nil())), u.p(u.y.orSet('f', 0, u.n(2))), u.y.setConstant(9, u.no()), u.p(u.y.orSet('c', 9, u.nil())),
                u.p(u.y.orSet('c', 9, u.n(3))), u.p(u.c(9))))), "d F n1 N n2 N n3 n3");
        due("11: as above, with warnings", u.y.warnings(), 2);
        PromisesTest v = new PromisesTest();
        due("11: a constant that is not found is not there", v.run(v.p(v.y.orSet('c', 11, v.n(1))), v.p(v.c(11))), "d n1 n1");
        due("11: no warning", v.y.warnings(), 0);
        PromisesTest w = new PromisesTest();
        due("11: a constant that is found elsewhere", w.run(w.y.setConstant(9, w.n(1)), w.y.setConstant(10, w.no()),
                w.type(6, w.seq(w.p(w.y.orSet('c', 9, w.n(2))), w.p(w.y.orSet('c', 10, w.n(3))))), w.p(w.c(10))), "d n1 n3 F");
        due("11: not set there, no warning", w.y.warnings(), 0);
    }

    private static void safeCalls() {
        PromisesTest t = new PromisesTest();
        due("13: if the receiver is nil, no argument is worked out", t.run(t.define(7, 2, t.n(7)), t.p(t.y.safeCall(t.nil(), 7, t.p(t.n(1)), t.p(t.n(2)))),
                t.p(t.y.safeCall(t.nil(), 19, -1, -1))), "d N N");
        PromisesTest u = new PromisesTest();
        due("13: just if it is nil", u.run(u.define(7, u.n(7)), u.p(u.y.safeCall(u.no(), 7, -1, -1)), u.p(u.y.safeCall(u.n(0), 7, -1, -1)),
                u.p(u.y.safeCall(u.n(2), 11, u.n(3), -1)), u.y.safeCall(u.no(), 8, -1, -1)), "e3 n7 n7 n-1");
    }

    private static void supersOutOfMethods() {
        PromisesTest t = new PromisesTest();
        due("14: out of a method, at the top", t.run(t.tried(t.y.superCall(true, -1, -1)), t.tried(t.y.superCall(false, t.p(t.n(1)), t.p(t.n(2))))), "d o4 o4");
        PromisesTest u = new PromisesTest();
        due("14: in a block and in a lambda", u.run(u.tried(u.call(u.proc(u.block(u.y.superCall(true, -1, -1))), 15)),
                u.tried(u.call(u.lambda(u.block(u.y.superCall(true, -1, -1))), 15)), u.define(7, u.y.yields(-1, -1)),
                u.tried(u.give(7, u.block(u.y.superCall(true, -1, -1))))), "d o4 o4 o4");
        PromisesTest v = new PromisesTest();
        due("14: in a body, also in a method", v.run(v.tried(v.type(6, v.y.superCall(true, -1, -1))), v.define(7, v.tried(v.module(9, v.y.superCall(true, -1, -1)))),
                v.send(7)), "d o4 o4");
    }

    private static void supersAsNow() {
        PromisesTest t = new PromisesTest();
        due("14: the parameters of the method as they are now, all of them", t.run(t.define(7, 2, t.seq(t.p(t.l(0)), t.p(t.l(1)))),
                t.type(6, t.y.define(7, 1, t.n(5), t.seq(t.set(0, t.n(4)), t.y.superCall(true, -1, -1)))), t.call(t.fresh(6), 7, t.n(1)),
                t.call(t.fresh(6), 7, t.n(1), t.n(2))), "d n4 n5 n4 n2");
        PromisesTest u = new PromisesTest();
        due("14: of the method, not of a block in it", u.run(u.define(7, 1, u.p(u.l(0))), u.type(6, u.define(7, 1,
                u.call(u.proc(u.block(0, u.seq(u.set(0, u.n(9)), u.y.superCall(true, -1, -1)))), 15, u.n(8)))), u.call(u.fresh(6), 7, u.n(1))), "d n1");
        PromisesTest v = new PromisesTest();
        due("14: none of a method without", v.run(v.define(7, v.n(7)), v.type(6, v.define(7, v.seq(v.set(0, v.n(1)), v.y.superCall(true, -1, -1)))),
                v.p(v.call(v.fresh(6), 7))), "d n7");
        PromisesTest w = new PromisesTest();
        due("14: in a default, as they are then", w.run(w.define(7, 2, w.seq(w.p(w.l(0)), w.p(w.l(1)))),
                w.type(6, w.y.define(7, 1, w.y.superCall(true, -1, -1), w.nil())), w.call(w.fresh(6), 7, w.n(1))), "d n1 N");
    }

    private static void blocks() {
        PromisesTest t = new PromisesTest();
        due("15: any locals without parameters", t.y.block(0, 99, -99, t.n(1)), 1);
        due("15: any second local with one", t.y.block(1, 5, Integer.MIN_VALUE, t.n(1)), 3);
        due("15: the same as the first one with one", t.y.block(1, 5, 5, t.n(1)), 5);
        due("15: two are others", of(() -> t.y.block(2, 5, 5, 99)), IAE);
    }

    private static void leaving() {
        PromisesTest t = new PromisesTest();
        due("18: -1 for nil", t.run(t.define(7, t.leave(-1)), t.define(8, t.leave(t.no())), t.p(t.send(7)), t.p(t.send(8))), "d N F");
    }

    private int leave(int value) {
        return y.leave('r', value);
    }

    private static void choices() {
        PromisesTest t = new PromisesTest();
        due("19 20: the second thing, what is chosen", t.run(t.p(t.y.both(t.n(1), t.nil())), t.p(t.y.choice(t.yes(), t.p(t.n(1)), t.p(t.n(2)))),
                t.p(t.y.choice(t.no(), t.p(t.n(1)), t.p(t.n(2)))), t.p(t.y.choice(t.nil(), t.p(t.n(1)), -1))), "d N n1 n1 n2 n2 N");
        PromisesTest u = new PromisesTest();
        due("21: as long as its condition is true; it gives nil", u.run(u.set(0, u.n(0)), u.p(u.y.loop(u.call(u.p(u.set(0, u.call(u.l(0), 10, u.n(1)))), 12, u.n(3)),
                u.n(7))), u.p(u.y.loop(u.nil(), u.p(u.n(9))))), "d n1 n2 n3 N N");
    }

    private static void attempts() {
        PromisesTest t = new PromisesTest();
        due("23: -1 for Error", t.run(t.p(t.y.attempt(t.c(6), -1, 0, t.n(1), -1, -1)), t.p(t.y.attempt(t.send(7), -1, 0, t.n(2), -1, -1)),
                t.p(t.y.attempt(t.c(6), 2, 0, t.n(3), -1, -1)), t.y.attempt(t.c(6), 3, 0, t.n(4), -1, -1)), "e2 n1 n2 n3");
        PromisesTest u = new PromisesTest();
        due("23: without other parts", u.run(u.p(u.y.attempt(u.n(1), -1, 0, u.n(2), -1, -1)), u.p(u.y.attempt(u.n(1), -1, 0, u.n(2), u.n(3), -1)),
                u.p(u.y.attempt(u.n(1), -1, 0, u.n(2), -1, u.n(4)))), "d n1 n3 n1");
    }

    private static void modules() {
        PromisesTest t = new PromisesTest();
        due("28: gives what its body gives; opened again", t.run(t.p(t.module(9, t.n(1))), t.p(t.module(9, t.seq(t.define(7, t.n(7)), t.self()))),
                t.p(t.module(9, t.y.responds(t.fresh(0), 7)))), "d n1 m6 F");
        due("50: one module", t.y.classes(), 7);
        PromisesTest u = new PromisesTest();
        due("28: a class there raises a new Error", u.run(u.type(6, u.nil()), u.tried(u.module(6, u.p(u.n(9)))), u.tried(u.module(0, u.p(u.n(9)))),
                u.tried(u.module(5, u.p(u.n(9))))), "d o2 o2 o2");
        PromisesTest v = new PromisesTest();
        due("28: a class or module elsewhere is not there", v.run(v.module(9, v.seq(v.module(9, v.p(v.self())), v.module(0, v.p(v.self())))), v.p(v.c(9))), "d m7 m8 m6");
        due("57: no warning", v.y.warnings(), 0);
    }

    private static void definitions() {
        PromisesTest t = new PromisesTest();
        due("29: gives the message; what it defined before is gone", t.run(t.p(t.define(0, t.nil())), t.p(t.define(19, t.n(1))), t.define(19, 1, t.n(2)),
                t.tried(t.send(19)), t.p(t.send(19, t.nil()))), "d s0 s19 o2 n2");
        PromisesTest u = new PromisesTest();
        due("29: or for the refinement, without a hook and public", u.run(u.module(9, u.seq(u.define(5, 1, u.p(u.l(0))), u.y.mix('e', -1, u.c(9)), u.y.visibility('r'),
                u.y.refine(u.c(1), u.p(u.define(7, u.n(7)))), u.define(8, u.n(8)))), u.y.using(u.c(9)), u.p(u.call(u.n(1), 7))), "d s7 s8 n7");
    }

    private static void ownPlaces() {
        PromisesTest t = new PromisesTest();
        due("30: at the own place of a thing, public; it gives the message", t.run(t.set(0, t.fresh(0)),
                t.type(6, t.seq(t.y.visibility('r'), t.p(t.y.defineOn(t.self(), 7, 0, -1, t.n(7))))), t.p(t.call(t.c(6), 7)), t.p(t.y.defineOn(t.l(0), 7, 0, -1, t.n(8))),
                t.p(t.call(t.l(0), 7)), t.tried(t.call(t.fresh(6), 7)), t.tried(t.call(t.fresh(0), 7))), "d s7 n7 s7 n8 o3 o3");
        due("51: no place of the lineage of the class", t.lineage(6), "6 0");
        due("53: not found there", of(() -> t.y.ownerOf(6, 7)), NSEE);
        PromisesTest v = new PromisesTest();
        due("29 30: a default is not worked out before it is missing", v.run(v.y.defineOn(v.c(5), 7, 0, v.p(v.n(1)), v.p(v.n(2))),
                v.y.define(8, 0, v.p(v.n(3)), v.p(v.n(4))), v.call(v.c(5), 7), v.send(8)), "d n1 n2 n3 n4");
        PromisesTest u = new PromisesTest();
        due("30: again at the same place", u.run(u.y.defineOn(u.c(5), 7, 0, -1, u.n(7)), u.y.defineOn(u.c(5), 7, 0, -1, u.n(8)),
                u.y.defineOn(u.c(5), 8, 1, u.n(3), u.l(1)), u.p(u.call(u.c(5), 7)), u.p(u.call(u.c(5), 8, u.nil())), u.tried(u.call(u.c(5), 8))), "d n8 n3 o2");
    }

    private static void mixings() {
        for (char kind : new char[] {'i', 'p', 'e'}) {
            PromisesTest t = new PromisesTest();
            int all = t.nil();
            for (int thing : new int[] {t.nil(), t.n(1), t.message(1), t.yes(), t.c(0), t.c(2), t.fresh(0), t.proc(t.block(t.nil()))}) {
                all = t.seq(all, t.tried(t.y.mix(kind, -1, thing)));
            }
            due("31: what is no module " + kind, t.run(t.type(6, all)), "d" + " o2".repeat(8));
            PromisesTest u = new PromisesTest();
            due("31: it gives the module " + kind, u.run(u.module(9, u.nil()), u.type(6, u.p(u.y.mix(kind, -1, u.c(9))))), "d m6");
        }
        PromisesTest v = new PromisesTest();
        due("31: what has it in its lineage, included or ahead", v.run(v.module(8, v.nil()), v.module(9, v.include(8)), v.module(10, v.ahead(9)),
                v.module(8, v.seq(v.tried(v.include(8)), v.tried(v.ahead(8)), v.tried(v.include(9)), v.tried(v.ahead(10)))), v.module(10, v.include(8))),
                "d o2 o2 o2 o2");
        due("51: as they were", v.lineage(6) + "|" + v.lineage(7) + "|" + v.lineage(8), "6|7 6|7 6 8");
        PromisesTest w = new PromisesTest();
        due("31: a module can extend itself, and what has it in its lineage", w.run(w.module(8, w.define(7, w.n(8))), w.module(9, w.include(8)),
                w.module(8, w.seq(w.y.mix('e', -1, w.c(8)), w.y.mix('e', w.self(), w.c(9)))), w.p(w.call(w.c(8), 7)), w.tried(w.y.mix('e', w.n(1), w.c(8)))), "d n8 o5");
        PromisesTest x = new PromisesTest();
        due("31: the innermost one around, Object at the top", x.run(x.module(8, x.define(7, x.n(8))), x.define(9, x.include(8)), x.type(6, x.send(9)),
                x.p(x.call(x.n(1), 7))), "d n8");
        due("51: included in Object", x.lineage(7) + "|" + x.lineage(0), "7 0 6|0 6");
    }

    private static void aliases() {
        PromisesTest t = new PromisesTest();
        due("32: found in its own lineage, with its visibility", t.run(t.define(7, t.n(7)), t.y.hide(7, 'r'), t.type(6, t.y.alias(8, 7)),
                t.type(6, t.define(9, t.send(8))), t.p(t.call(t.fresh(6), 9)), t.tried(t.call(t.fresh(6), 8)), t.tried(t.send(8))), "d n7 o3 o3");
        due("53: owners", t.y.ownerOf(6, 8) + " " + t.y.ownerOf(6, 7), "6 0");
        PromisesTest u = new PromisesTest();
        due("32: what it has stays when the old one changes", u.run(u.define(7, u.n(7)), u.y.alias(8, 7), u.y.alias(7, 7), u.define(7, u.n(9)), u.p(u.send(8)),
                u.y.undefine(7), u.p(u.send(8))), "d n7 n7");
        PromisesTest v = new PromisesTest();
        due("32: without one, a new NoMethod", v.run(v.tried(v.y.alias(8, 7)), v.tried(v.y.alias(8, 13)), v.define(7, v.n(7)),
                v.type(6, v.seq(v.y.undefine(7), v.tried(v.y.alias(8, 7)))), v.module(9, v.tried(v.y.alias(8, 7))), v.y.defineOn(v.c(5), 9, 0, -1, v.nil()),
                v.type(6, v.tried(v.y.alias(8, 9)))), "d o3 o3 o3 o3 o3");
        PromisesTest w = new PromisesTest();
        due("32: over what was undefined", w.run(w.define(7, w.n(7)), w.type(6, w.seq(w.define(8, w.n(8)), w.y.undefine(8), w.y.alias(8, 7))),
                w.p(w.call(w.fresh(6), 8))), "d n7");
    }

    private static void undefinings() {
        PromisesTest t = new PromisesTest();
        due("33: for the innermost one, just if a method is found in its lineage", t.run(t.define(7, t.n(7)), t.type(6, t.p(t.y.undefine(7))),
                t.tried(t.call(t.fresh(6), 7)), t.p(t.send(7)), t.type(6, t.tried(t.y.undefine(7))), t.tried(t.y.undefine(13)), t.tried(t.y.undefine(8)),
                t.module(9, t.tried(t.y.undefine(7)))), "d N o3 n7 o3 o3 o3 o3");
        due("56: two definitions", t.y.definitions(), 2);
        PromisesTest u = new PromisesTest();
        due("33: a private one, too", u.run(u.define(7, u.n(7)), u.y.hide(7, 'r'), u.y.undefine(7), u.tried(u.send(7))), "d o3");
    }

    private static void visibilities() {
        PromisesTest t = new PromisesTest();
        due("34: of methods that are defined next", t.run(t.type(6, t.seq(t.define(7, t.nil()), t.y.visibility('r'), t.define(8, t.n(8)), t.y.visibility('o'),
                t.define(9, t.n(9)), t.y.visibility('u'), t.define(10, t.nil()), t.define(2, 1, t.seq(t.p(t.send(8)), t.p(t.call(t.l(0), 9)), t.call(t.l(0), 8))))),
                t.set(0, t.fresh(6)),
                t.p(t.y.responds(t.l(0), 7)), t.p(t.y.responds(t.l(0), 8)), t.p(t.y.responds(t.l(0), 9)), t.p(t.y.responds(t.l(0), 10)),
                        t.tried(t.call(t.l(0), 2, t.fresh(6))), t.tried(t.call(t.l(0), 9))), "d T F F T n8 n9 o3 o3");
        PromisesTest u = new PromisesTest();
        due("34: in this body alone, not in one in it or around it", u.run(u.type(6, u.seq(u.y.visibility('r'),
                u.type(7, u.seq(u.define(7, u.nil()), u.y.visibility('o'))), u.define(8, u.nil()), u.p(u.y.responds(u.fresh(7), 7)))), u.p(u.y.responds(u.fresh(6), 8)),
                u.define(9, u.nil()), u.p(u.y.responds(u.nil(), 9))), "d T F T");
        PromisesTest v = new PromisesTest();
        due("34: elsewhere it changes nothing", v.run(v.y.visibility('r'), v.define(7, v.seq(v.y.visibility('r'), v.define(8, v.nil()))), v.send(7),
                v.p(v.y.responds(v.nil(), 7)), v.p(v.y.responds(v.nil(), 8)), v.type(6, v.seq(v.send(7), v.define(9, v.nil()))), v.p(v.y.responds(v.fresh(6), 9))),
                "d T T T");
        PromisesTest w = new PromisesTest();
        due("34: in a module, too", w.run(w.module(9, w.seq(w.y.visibility('r'), w.define(7, w.nil()))), w.include(9), w.p(w.y.responds(w.nil(), 7)), w.p(w.send(7))),
                "d F N");
    }

    private static void hidings() {
        PromisesTest t = new PromisesTest();
        due("35: a method that it has itself", t.run(t.define(7, t.n(7)), t.type(6, t.seq(t.tried(t.y.hide(7, 'r')), t.define(8, t.n(8)), t.p(t.y.hide(8, 'r')))),
                t.tried(t.call(t.fresh(6), 8)), t.type(6, t.y.hide(8, 'u')), t.p(t.call(t.fresh(6), 8)), t.tried(t.y.hide(9, 'u')), t.y.undefine(7),
                t.tried(t.y.hide(7, 'u'))), "d o3 N o3 n8 o3 o3");
        due("56: definitions", t.y.definitions(), 5);
        PromisesTest u = new PromisesTest();
        due("35: defined again, it is visible as in its body", u.run(u.type(6, u.seq(u.define(7, u.nil()), u.y.hide(7, 'r'), u.define(7, u.n(7)))),
                u.p(u.call(u.fresh(6), 7))), "d n7");
    }

    private static void freezing() {
        PromisesTest t = new PromisesTest();
        due("36: it gives the thing, whatever it is, also again", t.run(t.p(t.y.freeze(t.n(1))), t.p(t.y.freeze(t.nil())), t.p(t.y.freeze(t.message(2))),
                t.p(t.y.freeze(t.c(5))), t.p(t.y.freeze(t.y.freeze(t.c(5)))), t.p(t.y.freeze(t.fresh(0)))), "d n1 N s2 c5 c5 o0");
    }

    private static void refinements() {
        PromisesTest t = new PromisesTest();
        int inModule = t.nil();
        for (int thing : new int[] {t.nil(), t.n(1), t.fresh(0), t.c(9), t.message(1)}) {
            inModule = t.seq(inModule, t.tried(t.y.refine(thing, t.p(t.n(9)))));
        }
        due("37: if the innermost one is no module, or the thing no class", t.run(t.tried(t.y.refine(t.c(1), t.p(t.n(9)))),
                t.type(6, t.tried(t.y.refine(t.c(1), t.p(t.n(9))))), t.module(9, inModule), t.define(7, t.y.refine(t.c(1), t.p(t.n(9)))),
                t.module(9, t.tried(t.send(7)))), "d o2 o2 o2 o2 o2 o2 o2 o2");
        PromisesTest u = new PromisesTest();
        due("37: it gives what its body gives; self, locals and the innermost one stay", u.run(u.module(9,
                u.seq(u.set(0, u.n(1)), u.p(u.y.refine(u.c(1), u.seq(u.p(u.self()), u.p(u.l(0)), u.set(0, u.n(2)), u.y.setConstant(10, u.n(3)), u.n(4)))), u.p(u.l(0)),
                u.p(u.c(10)))), u.tried(u.c(10))), "d m6 n1 n4 n2 n3 o2");
        PromisesTest v = new PromisesTest();
        due("37: of Object, and of a class in the refining module", v.run(v.module(9, v.seq(v.type(6, v.nil()), v.y.refine(v.c(0), v.define(7, v.n(7))),
                v.y.refine(v.c(6), v.define(8, v.n(8))), v.y.setConstant(10, v.fresh(6)))), v.y.using(v.c(9)), v.p(v.call(v.nil(), 7)),
                v.p(v.call(v.module(9, v.c(10)), 8))), "d n7 n8");
        PromisesTest w = new PromisesTest();
        due("37: opened again it is the same refinement", w.run(w.module(9, w.y.refine(w.c(1), w.define(7, w.n(7)))), w.y.using(w.c(9)),
                w.module(9, w.y.refine(w.c(1), w.seq(w.define(8, w.n(8)), w.define(7, w.n(9))))), w.p(w.call(w.n(1), 7)), w.p(w.call(w.n(1), 8))), "d n9 n8");
    }

    private static void usings() {
        PromisesTest t = new PromisesTest();
        int all = t.nil();
        for (int thing : new int[] {t.nil(), t.n(1), t.c(0), t.fresh(0), t.message(1), t.yes()}) {
            all = t.seq(all, t.tried(t.y.using(thing)));
        }
        due("38: what is no module", t.run(all), "d" + " o2".repeat(6));
        due("56: no definition", t.y.definitions(), 0);
        PromisesTest u = new PromisesTest();
        due("38: it gives the module, with or without refinements", u.run(u.module(9, u.nil()), u.p(u.y.using(u.c(9))), u.p(u.y.using(u.c(9)))), "d m6 m6");
        due("56: two", u.y.definitions(), 2);
    }

    private static void questions() {
        PromisesTest t = new PromisesTest();
        due("39: what is no class or module", t.run(t.tried(t.y.isA(t.n(1), t.nil())), t.tried(t.y.isA(t.n(1), t.n(1))), t.tried(t.y.isA(t.fresh(0), t.fresh(0))),
                t.tried(t.y.isA(t.n(1), t.message(1)))), "d o2 o2 o2 o2");
        PromisesTest u = new PromisesTest();
        due("39: in the lineage of a thing", u.run(u.module(9, u.nil()), u.type(6, u.ahead(9)), u.p(u.y.isA(u.fresh(6), u.c(9))), u.p(u.y.isA(u.fresh(6), u.c(6))),
                u.p(u.y.isA(u.fresh(6), u.c(0))), u.p(u.y.isA(u.fresh(6), u.c(2))), u.p(u.y.isA(u.c(6), u.c(9))), u.y.mix('e', u.c(6), u.c(9)),
                u.p(u.y.isA(u.c(6), u.c(9))), u.p(u.y.isA(u.c(9), u.c(9)))), "d T T T F F T F");
        PromisesTest v = new PromisesTest();
        due("40: a public method alone", v.run(v.type(6, v.seq(v.define(7, v.nil()), v.define(8, v.nil()), v.y.hide(8, 'r'), v.define(9, v.nil()), v.y.hide(9, 'o'),
                v.define(1, 2, v.nil()), v.define(2, v.seq(v.p(v.y.responds(v.self(), 8)), v.p(v.y.responds(v.self(), 9)))))), v.set(0, v.fresh(6)),
                v.p(v.y.responds(v.l(0), 7)),
                v.p(v.y.responds(v.l(0), 8)), v.p(v.y.responds(v.l(0), 9)), v.p(v.y.responds(v.l(0), 10)), v.p(v.y.responds(v.l(0), 13)), v.call(v.l(0), 2)),
                        "d T F F F F F F");
    }

    private static void switches() {
        OpenclassYard y = new OpenclassYard();
        due("42: the file before", y.setFile(3) + " " + y.setFile(2) + " " + y.setFile(1) + " " + y.setFile(0) + " " + y.setFile(0), "0 3 2 1 0");
        for (int file : new int[] {-1, 4, Integer.MIN_VALUE, Integer.MAX_VALUE}) {
            due("42: no file " + file, of(() -> y.setFile(file)), IAE);
        }
        due("42: it stays", y.setFile(0), 0);
        due("43: whether it was", y.setKeeping(true) + " " + y.setKeeping(false) + " " + y.setKeeping(false) + " " + y.setKeeping(true), "true true false false");
    }

    private static void runs() {
        PromisesTest t = new PromisesTest();
        int one = t.n(1);
        due("44: limits", t.y.run(one, 1) + " " + t.y.run(one, 5000), "d d");
        for (int limit : new int[] {0, -1, 5001, Integer.MIN_VALUE, Integer.MAX_VALUE}) {
            due("44: a limit of " + limit, of(() -> t.y.run(one, limit)), IAE);
        }
        for (int node : new int[] {1, -1, 240, Integer.MIN_VALUE, Integer.MAX_VALUE}) {
            due("44: node " + node, of(() -> t.y.run(node, 1)), IOOBE);
            due("62: node " + node, of(() -> t.y.isSame(node)), IOOBE);
        }
        int block = t.block(one);
        due("44: a block", of(() -> t.y.run(block, 1)), IOOBE);
        due("62: a block", of(() -> t.y.isSame(block)), IOOBE);
        due("44: a part", t.y.run(one, 1), 'd');
        due("45: steps", t.y.steps(), 1);
    }

    private static void nothingRun() {
        OpenclassYard y = new OpenclassYard();
        y.print(y.number(1));
        due("45: no steps", y.steps(), 0);
        due("46: nothing printed", y.printed(), 0);
        due("47: no such thing", of(() -> y.kindAt(0)), IOOBE);
        due("48: no such thing", of(() -> y.valueAt(0)), IOOBE);
        due("49: nothing was raised", of(() -> y.raised()), NSEE);
        due("50: no classes", y.classes(), 0);
        due("51: no such class", of(() -> y.lineage(0)), IOOBE);
        due("52: no such class", of(() -> y.lineageAt(0, 0)), IOOBE);
        due("53: no such class", of(() -> y.ownerOf(0, 0)), IOOBE);
        due("54: no hits", y.hits(), 0);
        due("55: no misses", y.misses(), 0);
        due("56: no definitions", y.definitions(), 0);
        due("57: no warnings", y.warnings(), 0);
        due("58: no sum", y.sum(), 0L);
        due("59: none of both", of(() -> y.hitShare()), AE);
        due("60: none of both", of(() -> y.hitBits()), AE);
        due("61: nothing was run", of(() -> y.meanLineage()), AE);
        due("62: the same", y.isSame(1), true);
        due("62: that was no run", y.steps() + y.printed() + y.classes(), 0);
        due("44: a run that ends at its limit is one", y.run(1, 1), 'l');
        due("50: classes of it", y.classes() + " " + y.meanLineage(), "6 " + 14.0 / 6.0);
    }

    private static void printedThings() {
        PromisesTest t = new PromisesTest();
        due("47 48: each kind and its number", t.run(t.p(t.nil()), t.p(t.yes()), t.p(t.no()), t.p(t.n(-5)), t.p(t.message(19)), t.p(t.proc(t.block(t.nil()))),
                t.p(t.lambda(t.block(t.nil()))), t.p(t.fresh(2)), t.p(t.c(5)), t.module(9, t.p(t.self())), t.type(6, t.p(t.self())), t.p(t.fresh(6))),
                "d N T F n-5 s19 p p o2 c5 m6 c7 o7");
        due("46: twelve", t.y.printed(), 12);
        for (int index : new int[] {-1, 12, Integer.MIN_VALUE, Integer.MAX_VALUE}) {
            due("47: index " + index, of(() -> t.y.kindAt(index)), IOOBE);
            due("48: index " + index, of(() -> t.y.valueAt(index)), IOOBE);
        }
        due("58: of numbers alone", t.y.sum(), -5L);
        PromisesTest u = new PromisesTest();
        due("58: a sum that is no int", u.run(u.p(u.p(u.p(u.n(Integer.MIN_VALUE))))), "d n-2147483648 n-2147483648 n-2147483648");
        due("58: a long", u.y.sum(), 3L * Integer.MIN_VALUE);
    }

    private static void raised() {
        PromisesTest t = new PromisesTest();
        due("49: its class", t.run(t.type(6, 4, t.nil()), t.y.raises(t.c(6))), "e6");
        due("49: ends with d", t.run(t.nil()), "d");
        due("49: nothing was raised", of(() -> t.y.raised()), NSEE);
        int raising = t.c(11);
        due("49: ends with e", t.y.run(raising, 5), 'e');
        due("49: Error", t.y.raised(), 2);
        int endless = t.y.loop(t.n(1), t.n(1));
        due("49: ends with l", t.y.run(endless, 5), 'l');
        due("49: nothing was raised then", of(() -> t.y.raised()), NSEE);
    }

    private static void lineages() {
        PromisesTest t = new PromisesTest();
        t.run(t.module(9, t.nil()), t.type(6, 5, t.include(9)));
        due("51: lengths", t.y.lineage(0) + " " + t.y.lineage(6) + " " + t.y.lineage(7), "1 1 5");
        due("52: places", t.lineage(7), "7 6 5 2 0");
        for (int index : new int[] {-1, 8, Integer.MIN_VALUE, Integer.MAX_VALUE}) {
            due("51: class " + index, of(() -> t.y.lineage(index)), IOOBE);
            due("52: class " + index, of(() -> t.y.lineageAt(index, 0)), IOOBE);
            due("53: class " + index, of(() -> t.y.ownerOf(index, 0)), IOOBE);
        }
        for (int place : new int[] {-1, 5, Integer.MIN_VALUE, Integer.MAX_VALUE}) {
            due("52: place " + place, of(() -> t.y.lineageAt(7, place)), IOOBE);
        }
        due("52: place of a short one", of(() -> t.y.lineageAt(0, 1)), IOOBE);
    }

    private static void owners() {
        PromisesTest t = new PromisesTest();
        t.run(t.module(9, t.define(7, t.nil())), t.type(6, t.seq(t.include(9), t.define(8, t.nil()), t.y.hide(8, 'r'))),
                t.module(10, t.y.refine(t.c(6), t.define(7, t.nil()))), t.y.using(t.c(10)), t.type(11, 6, t.y.undefine(8)), t.y.defineOn(t.c(6), 2, 0, -1, t.nil()));
        due("53: where it is found", t.y.ownerOf(7, 8) + " " + t.y.ownerOf(6, 7), "7 6");
        due("53: without refinements", t.y.ownerOf(7, 7) + " " + t.y.ownerOf(9, 7), "6 6");
        due("53: what was undefined", of(() -> t.y.ownerOf(9, 8)), NSEE);
        due("53: what is at an own place", of(() -> t.y.ownerOf(7, 2)), NSEE);
        due("53: what is built in", of(() -> t.y.ownerOf(0, 13)), NSEE);
        due("53: of a module", of(() -> t.y.ownerOf(8, 7)), NSEE);
        for (int message : new int[] {-1, 20, Integer.MIN_VALUE, Integer.MAX_VALUE}) {
            due("53: message " + message, of(() -> t.y.ownerOf(7, message)), IAE);
        }
    }

    private static void shares() {
        PromisesTest t = new PromisesTest();
        due("59: no hits", t.run(t.call(t.n(1), 13)), "d");
        due("59: nought", t.y.hitShare(), 0f);
        due("60: nought", t.y.hitBits(), 0);
        PromisesTest u = new PromisesTest();
        int node = u.seq(u.set(0, u.n(0)), u.y.loop(u.call(u.l(0), 12, u.n(3)), u.set(0, u.call(u.l(0), 10, u.n(1)))));
        due("59: five hits and two misses", u.y.run(node, 5000), 'd');
        due("59: converted to float", u.y.hitShare(), 5f / 7f);
        due("60: its bits", u.y.hitBits(), Float.floatToIntBits(5f / 7f));
        int none = u.nil();
        due("59: none of both", u.y.run(none, 5), 'd');
        due("59: none of both throws", of(() -> u.y.hitShare()), AE);
        due("60: none of both throws", of(() -> u.y.hitBits()), AE);
    }

    private static void means() {
        PromisesTest t = new PromisesTest();
        due("61: of a run without a class of its own", t.run(t.nil()), "d");
        due("61: of six", t.y.meanLineage(), 14.0 / 6.0);
        PromisesTest u = new PromisesTest();
        u.run(u.module(9, u.nil()), u.include(9));
        due("61: of seven", u.y.meanLineage(), (14.0 + 6 + 1) / 7.0);
    }

    private static void same() {
        PromisesTest t = new PromisesTest();
        int node = t.seq(t.define(7, t.p(t.fresh(0))), t.send(7), t.define(7, t.p(t.n(2))), t.send(7), t.p(t.proc(t.block(t.nil()))), t.c(11));
        due("62: raised", t.y.isSame(node), true);
        t.y.setKeeping(false);
        due("44: a run", t.y.run(t.n(7), 9), 'd');
        due("62: the last run and keeping stay as they are", t.y.isSame(node) + " " + t.y.steps() + " " + t.y.setKeeping(true), "true 1 false");
        int endless = t.y.loop(t.n(1), t.p(t.n(1)));
        due("62: without an end", t.y.isSame(endless), true);
    }
}
