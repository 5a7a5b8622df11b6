/** The terms of the document, from definitions to exceptions, sentence by sentence: what each one says of its edges. */
public final class RunTermsTest extends Check {
    private static final String IAE = "IllegalArgumentException";
    private static final String IOOBE = "IndexOutOfBoundsException";
    private static final String UOE = "UnsupportedOperationException";
    private static final String ISE = "IllegalStateException";

    public static void main(String[] args) {
        definitionsAtTheTop();
        definitionsInMethods();
        newClasses();
        classesAgain();
        aboveClasses();
        hookOfClasses();
        hooksThatChange();
        lookingForConstants();
        bodiesOfClasses();
        hookOfDefining();
        hookOfMixing();
        modulesThere();
        changingWhatIsFrozen();
        whatIsFrozen();
        limits();
        stepsOfNodes();
        stepsOfEachKind();
        stepsOfWhatIsCalled();
        stepsOfTries();
        calls();
        callsOfBlocks();
        beginnings();
        prints();
        hitsAndMisses();
        keptFor();
        notKept();
        whatIsADefinition();
        nothingChanges();
        firstListed();
        end();
    }

    private int at(int thing, int message, int needed, int body) {
        return y.defineOn(thing, message, needed, -1, body);
    }

    private int at(int thing, int message, int body) {
        return at(thing, message, 0, body);
    }

    private int refine(int constant, int body) {
        return y.refine(c(constant), body);
    }

    private int use(int constant) {
        return y.using(c(constant));
    }

    private int extend(int thing, int constant) {
        return y.mix('e', thing, c(constant));
    }

    private int times(int most, int body) {
        return seq(set(0, n(0)), y.loop(call(set(0, call(l(0), 10, n(1))), 12, n(most + 1)), body));
    }

    private String kept() {
        return y.hits() + " " + y.misses();
    }

    private static void definitionsAtTheTop() {
        RunTermsTest t = new RunTermsTest();
        due("Definitions: at the top self is nil", t.run(t.p(t.self())), "d N");
        due("Definitions: at the top, those of Object", t.run(t.define(7, t.nil()), t.y.setConstant(9, t.n(1)), t.y.undefine(7), t.define(8, t.n(8)),
                t.type(6, t.p(t.c(9))), t.p(t.call(t.fresh(6), 8))), "d n1 n8");
        due("Definitions: owned by Object", t.y.ownerOf(6, 8), 0);
        due("Definitions: undefined in Object", of(() -> t.y.ownerOf(6, 7)), "NoSuchElementException");
    }

    private static void definitionsInMethods() {
        RunTermsTest t = new RunTermsTest();
        due("Definitions: in a method, those of the innermost class or module around its definition",
                t.run(t.module(9, t.type(6, t.seq(t.define(7, t.seq(t.define(8, t.n(8)), t.y.setConstant(10, t.n(10)), t.type(11, t.nil())))))),
                t.module(9, t.y.setConstant(8, t.c(6))), t.type(7, t.nil()),
                t.set(0, t.call(t.module(9, t.c(8)), 14)), t.call(t.l(0), 7), t.p(t.call(t.l(0), 8)), t.tried(t.c(10)),
                        t.module(9, t.seq(t.tried(t.c(10)), t.type(6, t.p(t.c(10)))))), "d n8 o2 o2 n10");
        due("Definitions: owned by that class", t.y.ownerOf(7, 8), 7);
        due("Definitions: a class made in it is not of Object", t.y.classes(), 10);
        RunTermsTest u = new RunTermsTest();
        due("Definitions: not those of the class of self", u.run(u.type(6, u.define(7, u.define(8, u.n(8)))), u.type(9, 6, u.nil()), u.call(u.fresh(9), 7),
                u.p(u.call(u.fresh(6), 8))), "d n8");
    }

    private static void newClasses() {
        RunTermsTest t = new RunTermsTest();
        due("Definitions: a new class gets the constant of the innermost one", t.run(t.type(6, t.seq(t.type(2, t.p(t.self())), t.type(0, t.p(t.self())))), t.p(t.c(2)),
                t.p(t.c(0)), t.type(2, t.p(t.self()))), "d c7 c8 c2 c0 c2");
        due("Definitions: no warning if there was nothing", t.y.warnings(), 0);
        RunTermsTest u = new RunTermsTest();
        due("Definitions: with a warning if it had another thing", u.run(u.y.setConstant(6, u.nil()), u.type(6, u.p(u.self())), u.module(7, u.nil()),
                u.type(7, u.p(u.self())), u.y.setConstant(8, u.n(1)), u.module(8, u.p(u.self()))), "d c6 c8 m9");
        due("Definitions: three warnings", u.y.warnings(), 3);
    }

    private static void classesAgain() {
        RunTermsTest t = new RunTermsTest();
        due("Definitions: a class is opened again", t.run(t.type(6, t.y.setField(0, t.n(1))), t.type(6, t.p(t.y.field(0))), t.type(6, 0, t.p(t.self())),
                t.type(8, 6, t.nil()), t.type(8, 6, t.p(t.self())), t.type(3, 2, t.p(t.self()))), "d n1 c6 c7 c3");
        due("Definitions: neither a class nor a warning more", t.y.classes() + " " + t.y.warnings(), "8 0");
        RunTermsTest u = new RunTermsTest();
        due("Definitions: another class above it raises a new Error, Object if there is none", u.run(u.type(6, u.nil()), u.type(8, 6, u.nil()),
                u.tried(u.type(8, 2, u.p(u.n(9)))), u.tried(u.type(8, u.p(u.n(9)))), u.tried(u.type(8, 0, u.p(u.n(9)))), u.tried(u.type(6, 8, u.p(u.n(9)))),
                u.tried(u.type(3, u.p(u.n(9)))),
                u.tried(u.type(6, 6, u.p(u.n(9)))), u.tried(u.type(0, 6, u.p(u.n(9))))), "d o2 o2 o2 o2 o2 o2 o2");
        RunTermsTest v = new RunTermsTest();
        due("Definitions: just if the innermost one has the constant itself", v.run(v.type(6, v.type(7, v.p(v.self()))),
                v.type(8, 6, v.seq(v.p(v.c(7)), v.type(7, v.p(v.self())), v.p(v.c(7))))), "d c7 c7 c9 c9");
        RunTermsTest w = new RunTermsTest();
        due("Definitions: Object is opened at the top", w.run(w.type(0, w.seq(w.p(w.self()), w.define(7, w.n(7)))), w.type(0, 0, w.p(w.send(7)))), "d c0 n7");
    }

    private static void aboveClasses() {
        RunTermsTest t = new RunTermsTest();
        due("Definitions: what is above is worked out first", t.run(t.y.classNode(6, t.seq(t.p(t.n(1)), t.c(2)), t.p(t.n(2))),
                t.y.classNode(6, t.p(t.c(2)), t.p(t.n(3)))), "d n1 n2 c2 n3");
        due("Definitions: it is above", t.lineage(6), "6 2 0");
        RunTermsTest u = new RunTermsTest();
        due("27: what is above has to be a class", u.run(u.module(9, u.nil()), u.tried(u.type(6, 9, u.p(u.n(9)))), u.tried(u.y.classNode(6, u.nil(), u.p(u.n(9)))),
                u.tried(u.y.classNode(6, u.n(0), u.p(u.n(9)))), u.tried(u.y.classNode(6, u.fresh(0), u.p(u.n(9)))), u.tried(u.y.classNode(0, u.nil(), u.p(u.n(9)))),
                u.tried(u.c(6))),
                "d o2 o2 o2 o2 o2 o2");
    }

    private static void hookOfClasses() {
        RunTermsTest t = new RunTermsTest();
        due("Definitions: 3 is called on the class above, with the new one, behind the constant and before the body",
                t.run(t.at(t.c(2), 3, 1, t.seq(t.p(t.self()), t.p(t.l(0)), t.p(t.c(6)))), t.type(6, 2, t.p(t.n(1))), t.type(6, 2, t.p(t.n(2))), t.type(7, t.p(t.n(3)))),
                "d c2 c6 c6 n1 n2 n3");
        RunTermsTest u = new RunTermsTest();
        due("Definitions: if found, whoever may call it; not for a module", u.run(u.define(3, 1, u.p(u.l(0))), u.y.hide(3, 'r'), u.type(6, u.nil()), u.module(9, u.nil()),
                u.y.hide(3, 'o'), u.type(7, u.nil()), u.y.undefine(3), u.type(8, u.nil())), "d c6 c8");
        RunTermsTest v = new RunTermsTest();
        due("Definitions: with one argument", v.run(v.define(3, v.nil()), v.tried(v.type(6, v.p(v.n(9)))), v.define(3, 2, v.nil()), v.tried(v.type(7, v.p(v.n(9)))),
                v.y.define(3, 1, v.n(5), v.p(v.l(1))), v.type(8, v.nil())), "d o2 o2 n5");
    }

    private static void hooksThatChange() {
        RunTermsTest t = new RunTermsTest();
        due("Definitions: the body is that of the new class, whatever 3 does", t.run(t.define(3, 1, t.seq(t.y.setConstant(6, t.n(1)), t.y.freeze(t.c(0)))),
                t.type(6, t.seq(t.p(t.self()), t.define(7, t.n(7)))), t.p(t.c(6))), "d c6 n1");
        due("Definitions: it has its method", t.y.ownerOf(6, 7), 6);
        RunTermsTest u = new RunTermsTest();
        due("Definitions: hooks get no block", u.run(u.define(9, u.y.yields(-1, -1)), u.module(8, u.nil()), u.at(u.c(0), 3, 1, u.tried(u.y.yields(-1, -1))),
                u.define(4, 1, u.tried(u.y.yields(-1, -1))), u.at(u.c(0), 5, 1, u.tried(u.y.yields(-1, -1))),
                u.give(9, u.block(u.seq(u.p(u.n(1)), u.define(7, u.nil())))), u.give(9, u.block(u.seq(u.p(u.n(2)), u.type(6, u.nil())))),
                        u.give(9, u.block(u.seq(u.p(u.n(3)), u.include(8))))), "d n1 o4 n2 o4 n3 o4");
    }

    private static void lookingForConstants() {
        RunTermsTest t = new RunTermsTest();
        due("Definitions: a constant in the classes and modules around, from the inside out", t.run(t.y.setConstant(9, t.n(0)),
                t.module(6, t.seq(t.y.setConstant(9, t.n(6)), t.p(t.c(9)), t.module(7, t.seq(t.p(t.c(9)), t.y.setConstant(9, t.n(7)), t.p(t.c(9)))), t.p(t.c(9)))),
                t.p(t.c(9))), "d n6 n6 n7 n6 n0");
        RunTermsTest u = new RunTermsTest();
        due("Definitions: without Object, then in the lineage of the innermost one", u.run(u.y.setConstant(9, u.n(0)), u.type(6, u.y.setConstant(9, u.n(6))),
                u.module(10, u.y.setConstant(9, u.n(10))), u.type(7, 6, u.p(u.c(9))), u.type(7, 6, u.seq(u.include(10), u.p(u.c(9)), u.type(8, u.p(u.c(9)))))),
                "d n6 n10 n0");
        RunTermsTest v = new RunTermsTest();
        due("Definitions: or of Object", v.run(v.module(10, v.y.setConstant(9, v.n(10))), v.include(10), v.p(v.c(9)), v.type(6, v.p(v.c(9))),
                v.module(7, v.tried(v.c(9)))), "d n10 n10 o2");
        RunTermsTest w = new RunTermsTest();
        due("Definitions: then in Object, also out of a module", w.run(w.y.setConstant(9, w.n(0)), w.module(7, w.p(w.c(9))), w.define(7, w.c(9)),
                w.module(7, w.define(8, w.c(9))), w.set(0, w.fresh(0)), w.extend(w.l(0), 7), w.p(w.call(w.l(0), 8))), "d n0 n0");
        RunTermsTest x = new RunTermsTest();
        due("Definitions: without it, a new Error is raised", x.run(x.tried(x.c(6)), x.type(7, x.tried(x.c(11))), x.type(7, x.y.setConstant(11, x.n(1))),
                x.tried(x.c(11))), "d o2 o2 o2");
        RunTermsTest z = new RunTermsTest();
        due("Definitions: what is ahead of the innermost one comes behind what it has itself, as it is around",
                z.run(z.module(10, z.y.setConstant(9, z.n(10))), z.type(6, z.seq(z.y.setConstant(9, z.n(6)), z.ahead(10), z.p(z.c(9)))), z.type(7, 6, z.p(z.c(9)))),
                "d n6 n10");
    }

    private static void bodiesOfClasses() {
        RunTermsTest t = new RunTermsTest();
        due("Definitions: in a body self is it, locals are new ones", t.run(t.set(0, t.n(1)), t.type(6, t.seq(t.p(t.self()), t.p(t.l(0)), t.set(0, t.n(2)))),
                t.type(6, t.p(t.l(0))), t.module(9, t.seq(t.p(t.self()), t.p(t.l(0)))), t.p(t.l(0))), "d c6 N N m7 N n1");
        RunTermsTest u = new RunTermsTest();
        due("Definitions: methods are public until this is changed, in each body anew", u.run(u.type(6,
                u.seq(u.define(7, u.nil()), u.y.visibility('r'), u.define(8, u.nil()))), u.type(6, u.define(9, u.nil())), u.set(0, u.fresh(6)),
                u.p(u.y.responds(u.l(0), 7)), u.p(u.y.responds(u.l(0), 8)), u.p(u.y.responds(u.l(0), 9))), "d T F T");
    }

    private static void hookOfDefining() {
        RunTermsTest t = new RunTermsTest();
        due("Definitions: defining calls 5 on the class or module with the message", t.run(t.type(6, t.seq(t.at(t.self(), 5, 1,
                t.seq(t.p(t.self()), t.p(t.l(0)), t.n(9))), t.p(t.define(7, t.nil())))), t.module(9, t.seq(t.at(t.self(), 5, 1, t.p(t.l(0))), t.define(8, t.nil()))),
                t.define(7, t.nil())), "d c6 s7 s7 s8");
        RunTermsTest u = new RunTermsTest();
        due("Definitions: behind it, when the method can be called", u.run(u.type(6, u.seq(u.at(u.self(), 5, 1, u.p(u.call(u.fresh(6), 7))), u.define(7, u.n(7))))),
                "d n7");
        RunTermsTest v = new RunTermsTest();
        due("Definitions: 5 with other parameters raises, but the method is there", v.run(v.define(5, 2, v.nil())), "e2");
        due("Definitions: it was defined", v.y.definitions() + " " + v.y.ownerOf(0, 5), "1 0");
    }

    private static void hookOfMixing() {
        RunTermsTest t = new RunTermsTest();
        due("Definitions: including, putting ahead, and extending call 4 on the module with the thing",
                t.run(t.module(9, t.at(t.self(), 4, 1, t.seq(t.p(t.self()), t.p(t.l(0)), t.n(5)))), t.type(6, t.seq(t.p(t.include(9)), t.p(t.ahead(9)))),
                t.p(t.extend(t.fresh(6), 9)), t.include(9)),
                "d m6 c7 m6 m6 c7 m6 m6 o7 m6 m6 c0");
        RunTermsTest u = new RunTermsTest();
        due("Definitions: 4 with other parameters raises, but the module is there", u.run(u.define(4, u.nil()), u.module(9, u.define(7, u.n(9))), u.tried(u.include(9)),
                u.p(u.send(7))), "d o2 n9");
    }

    private static void modulesThere() {
        RunTermsTest t = new RunTermsTest();
        due("Definitions: a module that is there already in this way is not added again, but 4 is called",
                t.run(t.module(9, t.at(t.self(), 4, 1, t.p(t.n(4)))), t.module(10, t.nil()), t.type(6,
                t.seq(t.include(9), t.include(10), t.include(9), t.ahead(9), t.ahead(10), t.ahead(9))), t.set(0, t.fresh(0)), t.extend(t.l(0), 9), t.extend(t.l(0), 9)),
                "d n4 n4 n4 n4 n4 n4");
        due("Definitions: each in its order", t.lineage(8), "7 6 8 0");
        due("Definitions: 4 at the own place, and five modules", t.y.definitions(), 6);
        RunTermsTest u = new RunTermsTest();
        due("Definitions: what is there in another way is added", u.run(u.module(9, u.nil()), u.type(6, u.include(9)), u.type(8, 6, u.include(9))), "d");
        due("Definitions: two", u.y.definitions() + " " + u.lineage(8), "2 8 6 7 0");
    }

    private static void changingWhatIsFrozen() {
        RunTermsTest t = new RunTermsTest();
        due("Definitions: changing what is frozen, fields", t.run(t.type(6, t.seq(t.y.setField(0, t.n(1)), t.define(7, t.y.setField(0, t.n(2))),
                t.define(8, t.y.orSet('f', 0, t.n(3))))), t.set(0, t.y.freeze(t.fresh(6))), t.tried(t.call(t.l(0), 7)), t.tried(t.call(t.l(0), 8)), t.y.freeze(t.c(6)),
                t.type(6, t.seq(t.tried(t.y.setField(0, t.n(4))),
                t.p(t.y.orSet('f', 0, t.n(5))), t.p(t.y.field(0))))), "d o5 o5 o5 n1 n1");
        RunTermsTest u = new RunTermsTest();
        due("Definitions: constants", u.run(u.type(6, u.y.setConstant(9, u.n(1))), u.y.freeze(u.c(6)),
                u.type(6, u.seq(u.tried(u.y.setConstant(9, u.n(2))), u.tried(u.y.orSet('c', 10, u.n(2))), u.p(u.y.orSet('c', 9, u.n(3))),
                u.tried(u.type(10, u.p(u.n(9)))), u.tried(u.module(10, u.p(u.n(9)))), u.p(u.c(9))))), "d o5 o5 n1 o5 o5 n1");
        due("Definitions: no warning, no class", u.y.warnings() + " " + u.y.classes(), "0 7");
        RunTermsTest v = new RunTermsTest();
        due("Definitions: methods", v.run(v.type(6, v.define(7, v.n(7))), v.set(0, v.y.freeze(v.fresh(6))), v.y.freeze(v.c(6)),
                v.type(6, v.seq(v.tried(v.define(8, v.nil())), v.tried(v.y.alias(8, 7)), v.tried(v.y.undefine(7)), v.tried(v.y.hide(7, 'r')))),
                v.tried(v.at(v.c(6), 8, v.nil())), v.tried(v.at(v.l(0), 8, v.nil())), v.p(v.call(v.fresh(6), 7))), "d o5 o5 o5 o5 o5 o5 n7");
        due("Definitions: one", v.y.definitions(), 1);
        RunTermsTest w = new RunTermsTest();
        due("Definitions: modules", w.run(w.module(9, w.at(w.self(), 4, 1, w.p(w.n(9)))), w.set(0, w.y.freeze(w.fresh(0))), w.type(6, w.nil()), w.y.freeze(w.c(6)),
                w.type(6, w.seq(w.tried(w.include(9)), w.tried(w.ahead(9)), w.tried(w.y.mix('e', -1, w.c(9))))), w.tried(w.extend(w.l(0), 9))), "d o5 o5 o5 o5");
        RunTermsTest x = new RunTermsTest();
        due("Definitions: opening it does not", x.run(x.type(6, x.define(7, x.n(7))), x.module(9, x.nil()), x.y.freeze(x.c(6)), x.y.freeze(x.c(9)), x.y.freeze(x.c(0)),
                x.type(6, x.p(x.self())), x.module(9, x.p(x.self())), x.p(x.call(x.fresh(6), 7)), x.tried(x.type(8, x.p(x.n(9)))), x.p(x.l(5))), "d c6 m7 n7 o5 o5");
    }

    private static void whatIsFrozen() {
        RunTermsTest t = new RunTermsTest();
        int all = t.seq(t.define(7, t.y.setField(0, t.n(1))), t.module(9, t.nil()));
        for (int thing : new int[] {t.n(1), t.message(1), t.nil(), t.yes(), t.no(), t.proc(t.block(t.nil())), t.lambda(t.block(t.nil()))}) {
            all = t.seq(all, t.set(0, thing), t.tried(t.call(t.l(0), 7)), t.tried(t.at(t.l(0), 8, t.nil())), t.tried(t.extend(t.l(0), 9)));
        }
        due("Definitions: numbers, messages, nil, true, false and procs are frozen", t.run(all), "d" + " o5".repeat(21));
        RunTermsTest u = new RunTermsTest();
        due("Definitions: objects, classes and modules are not", u.run(u.module(9, u.define(8, u.n(9))), u.define(7, u.y.setField(0, u.n(1))), u.set(0, u.fresh(0)),
                u.p(u.call(u.l(0), 7)), u.extend(u.l(0), 9), u.p(u.call(u.l(0), 8)), u.at(u.l(0), 8, u.n(1)), u.p(u.call(u.l(0), 8)), u.p(u.call(u.c(1), 7)),
                u.p(u.call(u.c(9), 7))), "d n1 n9 n1 n1 n1");
        RunTermsTest v = new RunTermsTest();
        due("Definitions: freezing a class freezes no thing of it, and no class below", v.run(v.type(6, v.define(7, v.y.setField(0, v.n(1)))), v.type(8, 6, v.nil()),
                v.y.freeze(v.c(6)), v.p(v.call(v.fresh(6), 7)), v.type(8, 6, v.p(v.define(9, v.nil())))), "d n1 s9");
    }

    private static void limits() {
        RunTermsTest t = new RunTermsTest();
        int three = t.p(t.p(t.n(1)));
        due("Runs: a run ends when it would make more steps than its limit", t.runLimited(three, 2) + "|" + t.runLimited(three, 3) + "|" + t.runLimited(three, 4),
                "l|d n1 n1|d n1 n1");
        due("Runs: three steps", t.y.steps(), 3);
        RunTermsTest u = new RunTermsTest();
        int endless = u.y.loop(u.n(1), u.p(u.n(2)));
        for (int limit : new int[] {1, 2, 3, 4, 4999, 5000}) {
            due("Runs: an endless one, " + limit, u.y.run(endless, limit), 'l');
            due("Runs: its steps", u.y.steps(), limit);
        }
        RunTermsTest v = new RunTermsTest();
        int raising = v.c(6);
        due("Runs: what is raised at the last step", v.runLimited(raising, 1), "e2");
        int handled = v.rescued(raising);
        due("Runs: a handler is a step more", v.runLimited(handled, 2) + "|" + v.runLimited(handled, 3), "l|d");
    }

    private int rescued(int body) {
        return y.attempt(body, -1, 5, n(1), -1, -1);
    }

    private static void stepsOfNodes() {
        RunTermsTest t = new RunTermsTest();
        t.run(t.define(7, t.n(1)));
        due("Runs: a definition does not begin its body", t.y.steps(), 1);
        RunTermsTest u = new RunTermsTest();
        u.run(u.y.choice(u.no(), u.p(u.n(1)), -1), u.y.orSet('l', 0, u.n(1)), u.y.orSet('l', 0, u.p(u.n(1))), u.y.safeCall(u.nil(), 7, u.p(u.n(1)), -1));
        due("Runs: what is not done is no step", u.y.steps(), 2 + 2 + 1 + 2 + 3);
        RunTermsTest v = new RunTermsTest();
        v.run(v.times(2, v.nil()));
        due("Runs: each node each time that it begins", v.y.steps(), 3 + 1 + 3 * 6 + 2);
    }

    /** How many steps a node makes that is run alone. */
    private static void steps(String what, RunTermsTest t, int node, char end, int due) {
        due("Runs: " + what, t.y.run(node, 5000) + " " + t.y.steps(), end + " " + due);
    }

    private static void stepsOfEachKind() {
        RunTermsTest t = new RunTermsTest();
        steps("a number", t, t.n(1), 'd', 1);
        steps("a message", t, t.message(1), 'd', 1);
        steps("self", t, t.self(), 'd', 1);
        steps("a local, a field, a constant", t, t.seq(t.l(0), t.y.field(0), t.c(0)), 'd', 5);
        steps("settings", t, t.seq(t.set(0, t.n(1)), t.y.setConstant(6, t.n(1))), 'd', 5);
        steps("a setting of what is frozen", t, t.y.setField(0, t.n(1)), 'e', 2);
        steps("a call with all its parts", t, t.y.call(t.n(1), 10, t.n(2), t.n(3), t.block(t.n(4))), 'd', 4);
        steps("a safe call", t, t.y.safeCall(t.n(1), 10, t.n(2), -1), 'd', 3);
        steps("super out of a method", t, t.y.superCall(false, t.n(1), t.n(2)), 'e', 1);
        steps("a proc", t, t.proc(t.block(t.n(1))), 'd', 1);
        steps("a call of a proc", t, t.call(t.proc(t.block(t.n(1))), 15), 'd', 3);
        steps("yielding without a block", t, t.y.yields(t.n(1), t.n(2)), 'e', 3);
        steps("leaving elsewhere", t, t.y.leave('b', t.n(1)), 'e', 2);
        steps("leaving the program", t, t.y.leave('r', t.n(1)), 'd', 2);
        steps("a choice", t, t.y.choice(t.no(), t.n(1), t.n(2)), 'd', 3);
        steps("a choice of nothing", t, t.y.choice(t.no(), t.n(1), -1), 'd', 2);
        steps("a loop that is left", t, t.y.loop(t.n(1), t.y.leave('b', -1)), 'd', 3);
        steps("raising", t, t.y.raises(t.c(2)), 'e', 2);
        steps("raising what is no Error", t, t.y.raises(t.n(1)), 'e', 2);
        steps("retrying elsewhere", t, t.y.retry(), 'e', 1);
        steps("a catching", t, t.y.catches(t.n(1), t.n(2)), 'd', 3);
        steps("a throwing", t, t.y.catches(t.n(1), t.y.throwsTo(t.n(1), t.n(2))), 'd', 5);
        steps("a throwing to none", t, t.y.throwsTo(t.n(1), t.n(2)), 'e', 3);
        steps("definitions", t, t.seq(t.define(7, t.n(1)), t.y.alias(8, 7), t.y.hide(8, 'r'), t.y.undefine(8), t.y.visibility('u')), 'd', 9);
        steps("a definition at an own place", t, t.at(t.c(0), 7, t.n(1)), 'd', 2);
        steps("freezing, asking, printing", t, t.seq(t.y.freeze(t.n(1)), t.y.isA(t.n(1), t.c(0)), t.y.responds(t.n(1), 7), t.p(t.n(1))), 'd', 2 + 3 + 2 + 2 + 3);
        steps("refining at the top", t, t.refine(1, t.n(1)), 'e', 2);
        steps("using what is no module", t, t.use(0), 'e', 2);
    }

    private static void stepsOfWhatIsCalled() {
        RunTermsTest t = new RunTermsTest();
        steps("a class and a module", t, t.seq(t.type(6, 2, t.n(1)), t.module(9, t.n(1))), 'd', 3 + 2 + 1);
        steps("a refinement that is used", t, t.seq(t.module(9, t.refine(1, t.define(7, t.n(1)))), t.use(9), t.call(t.n(1), 7)), 'd', 2 + 4 + 2 + 3);
        steps("mixing, with a hook", t, t.seq(t.define(4, 1, t.n(1)), t.module(9, t.n(1)), t.include(9), t.y.mix('e', t.fresh(0), t.c(9))), 'd', 3 + 1 + 2 + 3 + 5);
        steps("a default, just if it is missing", t, t.seq(t.y.define(7, 0, t.n(1), t.n(2)), t.send(7), t.send(7, t.n(3))), 'd', 2 + 1 + 3 + 3);
        steps("making with 0", t, t.seq(t.define(0, t.n(1)), t.fresh(0)), 'd', 1 + 1 + 3);
        steps("a missing method with 1", t, t.seq(t.define(1, 2, t.n(1)), t.send(7)), 'd', 1 + 1 + 2);
        steps("a missing method without 1", t, t.send(7), 'e', 1);
        steps("too few arguments", t, t.seq(t.define(7, 1, t.n(1)), t.send(7)), 'e', 3);
        steps("super in a method", t, t.seq(t.define(13, t.y.superCall(true, -1, -1)), t.send(13)), 'd', 1 + 1 + 2);
        steps("a block that is given", t, t.seq(t.define(7, t.y.yields(t.n(1), -1)), t.give(7, t.block(t.n(2)))), 'd', 1 + 1 + 4);
    }

    private static void stepsOfTries() {
        RunTermsTest t = new RunTermsTest();
        steps("a try", t, t.y.attempt(t.n(1), -1, 0, t.n(2), -1, -1), 'd', 2);
        steps("with an other and a last part", t, t.y.attempt(t.n(1), -1, 0, t.n(2), t.n(3), t.n(4)), 'd', 4);
        steps("with a handler and a last part", t, t.y.attempt(t.c(6), -1, 0, t.n(2), t.n(3), t.n(4)), 'd', 4);
        steps("a try that does not get it", t, t.y.attempt(t.c(6), 3, 0, t.n(2), t.n(3), -1), 'e', 2);
        steps("a try that does not get it, with a last part", t, t.y.attempt(t.c(6), 3, 0, t.n(2), t.n(3), t.n(4)), 'e', 3);
        steps("a try without its constant", t, t.y.attempt(t.c(6), 11, 0, t.n(2), -1, -1), 'e', 2);
        steps("a try that is left", t, t.y.catches(t.n(1), t.y.attempt(t.y.throwsTo(t.n(1), t.n(2)), -1, 0, t.n(2), t.n(3), -1)), 'd', 6);
        steps("a handler that raises", t, t.y.attempt(t.c(6), -1, 0, t.c(6), t.n(3), -1), 'e', 3);
        steps("a last part that raises", t, t.y.attempt(t.c(6), -1, 0, t.n(1), t.n(3), t.c(6)), 'e', 4);
        steps("retrying", t, t.y.attempt(t.y.choice(t.l(0), t.n(1), t.c(6)), -1, 0, t.y.retry(), -1, t.n(2)), 'd', 1 + 3 + 1 + 3 + 1);
    }

    private static void calls() {
        RunTermsTest t = new RunTermsTest();
        int down = t.define(7, 1, t.y.choice(t.call(t.l(0), 12, t.n(2)), t.n(5), t.send(7, t.call(t.l(0), 11, t.n(1)))));
        due("Runs: 40 calls within one another, and not 41", t.run(down, t.p(t.send(7, t.n(40))), t.tried(t.send(7, t.n(41))), t.p(t.send(7, t.n(40)))), "d n5 o4 n5");
        RunTermsTest u = new RunTermsTest();
        due("Runs: 0, 1 and hooks are calls of methods, too", u.run(u.set(0, u.n(0)), u.define(1, 2, u.seq(u.y.setField(0, u.n(1)), u.send(7))),
                u.define(0, u.seq(u.y.orSet('c', 9, u.n(0)), u.y.setConstant(9, u.call(u.c(9), 10, u.n(1))), u.fresh(0))), u.tried(u.fresh(0)), u.p(u.c(9))), "d o4 n40");
        RunTermsTest v = new RunTermsTest();
        due("Runs: with 1", v.run(v.y.setConstant(9, v.n(0)), v.define(1, 2, v.seq(v.y.setConstant(9, v.call(v.c(9), 10, v.n(1))), v.send(7))), v.tried(v.send(7)),
                v.p(v.c(9))), "d o4 n40");
        RunTermsTest w = new RunTermsTest();
        due("Runs: with the hook of defining", w.run(w.y.setConstant(9, w.n(0)), w.tried(w.define(5, 1,
                w.seq(w.y.setConstant(9, w.call(w.c(9), 10, w.n(1))), w.define(7, w.nil())))), w.p(w.c(9))), "d o4 n40");
        RunTermsTest x = new RunTermsTest();
        due("Runs: with super", x.run(x.define(7, 1, x.y.choice(x.call(x.l(0), 12, x.n(2)), x.n(5), x.call(x.fresh(6), 7, x.call(x.l(0), 11, x.n(1))))),
                x.type(6, x.define(7, 1, x.y.superCall(true, -1, -1))), x.p(x.call(x.fresh(6), 7, x.n(20))), x.tried(x.call(x.fresh(6), 7, x.n(21)))), "d n5 o4");
    }

    private static void callsOfBlocks() {
        RunTermsTest t = new RunTermsTest();
        due("Runs: procs", t.run(t.set(0, t.proc(t.block(1, t.y.choice(t.call(t.l(1), 12, t.n(2)), t.n(5), t.call(t.l(0), 15, t.call(t.l(1), 11, t.n(1))))))),
                t.p(t.call(t.l(0), 15, t.n(40))), t.tried(t.call(t.l(0), 15, t.n(41)))), "d n5 o4");
        RunTermsTest u = new RunTermsTest();
        due("Runs: methods and blocks, one in the other", u.run(u.define(7, 1, u.y.choice(u.call(u.l(0), 12, u.n(2)), u.y.yields(-1, -1),
                u.y.call(-1, 7, u.call(u.l(0), 11, u.n(1)), -1, u.block(u.y.yields(-1, -1))))), u.p(u.y.call(-1, 7, u.n(20), -1, u.block(u.n(5)))),
                u.tried(u.y.call(-1, 7, u.n(21), -1, u.block(u.n(5))))), "d n5 o4");
        RunTermsTest v = new RunTermsTest();
        due("Runs: bodies of classes are none; what is over is none", v.run(v.define(7, 1, v.type(6, v.n(1))), v.times(100, v.send(7, v.n(1))), v.p(v.l(0)),
                v.define(8, 1, v.y.choice(v.call(v.l(0), 12, v.n(2)), v.type(6, v.n(5)), v.send(8, v.call(v.l(0), 11, v.n(1))))), v.p(v.send(8, v.n(40)))), "d n101 n5");
    }

    private static void beginnings() {
        RunTermsTest t = new RunTermsTest();
        int all = t.seq(t.p(t.l(0)), t.set(0, t.n(1)), t.tried(t.send(7)), t.define(7, t.n(7)), t.tried(t.c(6)), t.type(6, t.nil()), t.p(t.y.responds(t.n(1), 8)),
                t.module(9, t.refine(1, t.define(8, t.nil()))), t.use(9), t.y.setConstant(2, t.n(1)), t.y.freeze(t.c(0)));
        for (int i = 0; i < 3; i++) {
            due("Runs: a run begins with nothing defined", t.runLimited(all, 5000), "d N o3 o2 F");
            due("Runs: what is counted, too", t.y.definitions() + " " + t.y.warnings() + " " + t.y.classes(), "3 1 8");
        }
        RunTermsTest u = new RunTermsTest();
        due("Runs: ends with d, or e if something was raised and not got",
                u.run(u.nil()) + "|" + u.run(u.tried(u.c(6))) + "|" + u.run(u.c(6)) + "|" + u.run(u.y.leave('r', -1)), "d|d o2|e2|d");
    }

    private static void prints() {
        for (int count : new int[] {59, 60, 61, 100}) {
            RunTermsTest t = new RunTermsTest();
            due("Runs: at most 60 things are printed, here of " + count, t.y.run(t.times(count, t.set(1, t.p(t.l(0)))), 5000), 'd');
            due("Runs: printed", t.y.printed(), Math.min(count, 60));
            due("Runs: others are left out", t.y.valueAt(Math.min(count, 60) - 1), Math.min(count, 60));
        }
    }

    private static void hitsAndMisses() {
        RunTermsTest t = new RunTermsTest();
        t.run(t.define(7, 1, t.call(t.l(0), 8)), t.define(8, t.nil()), t.send(7, t.nil()), t.send(7, t.yes()), t.send(7, t.n(1)), t.send(7, t.n(2)), t.send(7, t.nil()));
        due("Keeping: of the same class a hit, of another one a miss, and what was found before it is gone", t.kept(), "2 8");
        RunTermsTest u = new RunTermsTest();
        u.run(u.define(1, 2, u.nil()), u.times(3, u.call(u.n(1), 7)));
        due("Keeping: or that it found nothing", u.kept(), "8 3");
        RunTermsTest v = new RunTermsTest();
        v.run(v.define(7, v.nil()), v.times(3, v.y.safeCall(v.n(1), 7, -1, -1)), v.y.safeCall(v.nil(), 7, -1, -1));
        due("Keeping: a safe one, too, but not of nil", v.kept(), "8 3");
        RunTermsTest w = new RunTermsTest();
        w.run(w.define(7, w.nil()), w.y.hide(7, 'r'), w.times(3, w.rescued(w.call(w.n(1), 7))), w.times(3, w.rescued(w.call(w.n(1), 10))));
        due("Keeping: what may not be called, and what raises, too", w.kept(), "16 6");
    }

    private static void keptFor() {
        RunTermsTest t = new RunTermsTest();
        t.run(t.define(7, 1, t.call(t.l(0), 13)), t.send(7, t.c(1)), t.send(7, t.c(1)), t.send(7, t.c(2)), t.send(7, t.nil()), t.send(7, t.c(0)), t.send(7, t.c(0)));
        due("Keeping: for a class itself", t.kept(), "2 10");
        RunTermsTest u = new RunTermsTest();
        u.run(u.module(8, u.nil()), u.module(9, u.nil()), u.define(7, 1, u.call(u.l(0), 13)), u.send(7, u.c(8)), u.send(7, u.c(8)), u.send(7, u.c(9)));
        due("Keeping: for a module itself", u.kept(), "1 5");
        RunTermsTest v = new RunTermsTest();
        v.run(v.set(0, v.fresh(0)), v.set(1, v.fresh(0)), v.at(v.l(0), 8, v.nil()), v.define(7, 1, v.call(v.l(0), 13)), v.send(7, v.l(0)), v.send(7, v.l(0)),
                v.send(7, v.l(1)), v.send(7, v.fresh(0)), v.send(7, v.l(0)));
        due("Keeping: for what has methods at its own place itself", v.kept(), "2 11");
        RunTermsTest w = new RunTermsTest();
        w.run(w.module(9, w.nil()), w.set(0, w.fresh(0)), w.set(1, w.fresh(0)), w.extend(w.l(0), 9), w.extend(w.l(1), 9), w.define(7, 1, w.call(w.l(0), 13)),
                w.send(7, w.l(0)), w.send(7, w.l(0)), w.send(7, w.l(1)), w.send(7, w.nil()), w.send(7, w.fresh(0)));
        due("Keeping: for what has modules at its own place itself; for others their class", w.kept(), "2 11");
        RunTermsTest x = new RunTermsTest();
        x.run(x.type(6, x.nil()), x.type(8, 6, x.nil()), x.define(7, 1, x.call(x.l(0), 13)), x.send(7, x.fresh(6)), x.send(7, x.fresh(8)), x.send(7, x.fresh(6)));
        due("Keeping: a class is another one than the class above it", x.kept(), "0 9");
    }

    private static void notKept() {
        RunTermsTest t = new RunTermsTest();
        t.run(t.define(7, t.nil()), t.type(6, t.define(7, t.y.superCall(true, -1, -1))), t.set(1, t.fresh(6)), t.times(3, t.call(t.l(1), 7)));
        due("Keeping: not super", t.kept(), "8 4");
        RunTermsTest u = new RunTermsTest();
        u.run(u.define(5, 1, u.nil()), u.define(4, 1, u.nil()), u.define(3, 1, u.nil()), u.module(9, u.nil()), u.type(6, u.include(9)), u.define(7, u.nil()));
        due("Keeping: not hooks", u.kept(), "0 0");
        RunTermsTest v = new RunTermsTest();
        v.run(v.define(0, v.nil()), v.define(1, 2, v.nil()), v.fresh(0), v.send(7), v.rescued(v.y.raises(v.c(2))));
        due("Keeping: not what is told of 0 and 1", v.kept(), "0 2");
        RunTermsTest w = new RunTermsTest();
        int all = w.seq(w.define(7, w.nil()), w.times(3, w.send(7)));
        w.y.setKeeping(false);
        due("Keeping: if it is on", w.runLimited(all, 500) + " " + w.kept(), "d 0 0");
        w.y.setKeeping(true);
        due("Keeping: as at first", w.runLimited(all, 500) + " " + w.kept(), "d 8 3");
    }

    /** The method 2 calls 13 once: a hit, if nothing was defined since it was called before. */
    private String hitBehind(int before, int definition) {
        run(before, define(2, call(n(1), 13)), send(2), definition, send(2));
        return kept() + " " + y.definitions();
    }

    private static void whatIsADefinition() {
        RunTermsTest t = new RunTermsTest();
        due("Keeping: none is a hit", t.hitBehind(t.nil(), t.nil()), "1 3 1");
        RunTermsTest u = new RunTermsTest();
        due("Keeping: defining", u.hitBehind(u.nil(), u.define(7, u.nil())), "0 4 2");
        RunTermsTest v = new RunTermsTest();
        due("Keeping: defining at an own place", v.hitBehind(v.nil(), v.at(v.c(5), 7, v.nil())), "0 4 2");
        RunTermsTest w = new RunTermsTest();
        due("Keeping: aliasing", w.hitBehind(w.define(7, w.nil()), w.y.alias(8, 7)), "0 4 3");
        RunTermsTest x = new RunTermsTest();
        due("Keeping: undefining", x.hitBehind(x.define(7, x.nil()), x.y.undefine(7)), "0 4 3");
        RunTermsTest z = new RunTermsTest();
        due("Keeping: hiding", z.hitBehind(z.define(7, z.nil()), z.y.hide(7, 'u')), "0 4 3");
        for (char kind : new char[] {'i', 'p', 'e'}) {
            RunTermsTest a = new RunTermsTest();
            due("Keeping: mixing a module in, " + kind, a.hitBehind(a.module(9, a.nil()), a.y.mix(kind, a.c(0), a.c(9))), "0 4 2");
            RunTermsTest b = new RunTermsTest();
            due("Keeping: not if it was there in this way, " + kind, b.hitBehind(b.seq(b.module(9, b.nil()), b.y.mix(kind, b.c(0), b.c(9))),
                    b.y.mix(kind, b.c(0), b.c(9))), "1 3 2");
        }
        RunTermsTest c = new RunTermsTest();
        due("Keeping: using", c.hitBehind(c.module(9, c.nil()), c.use(9)), "0 4 2");
        RunTermsTest d = new RunTermsTest();
        due("Keeping: using what is used already", d.hitBehind(d.seq(d.module(9, d.nil()), d.use(9)), d.use(9)), "0 4 3");
        RunTermsTest e = new RunTermsTest();
        due("Keeping: defining in a refinement", e.hitBehind(e.nil(), e.module(9, e.refine(1, e.define(7, e.nil())))), "0 4 2");
        RunTermsTest f = new RunTermsTest();
        due("Keeping: neither classes, modules, constants, fields, freezing, refining, nor what raises",
                f.hitBehind(f.y.freeze(f.c(5)), f.seq(f.type(6, f.y.setField(0, f.nil())), f.module(9, f.refine(1, f.nil())), f.y.setConstant(10, f.n(1)),
                f.y.freeze(f.c(6)), f.rescued(f.type(6, f.define(7, f.nil()))), f.rescued(f.y.undefine(7)), f.rescued(f.at(f.c(5), 7, f.nil())),
                f.rescued(f.use(6)), f.y.visibility('r'))), "1 3 1");
    }

    private static void nothingChanges() {
        RunTermsTest t = new RunTermsTest();
        int one = t.n(1);
        int print = t.p(one);
        int block = t.block(t.n(2));
        due("Exceptions: a run", t.runLimited(print, 100), "d n1");
        Call[] calls = {
            () -> t.y.message(20), () -> t.y.setLocal(6, 0), () -> t.y.both(one, 1), () -> t.y.both(print, print), () -> t.y.both(print, 99), () -> t.y.both(99, print),
                    () -> t.y.choice(print, block, -1), () -> t.y.proc(print, true),
            () -> t.y.call(print, 7, -1, one, -1), () -> t.y.call(print, 7, -1, -1, print), () -> t.y.setFile(4), () -> t.y.run(block, 5), () -> t.y.run(print, 0),
                    () -> t.y.run(print, 5001), () -> t.y.run(9, 5), () -> t.y.kindAt(1), () -> t.y.valueAt(-1), () -> t.y.raised(), () -> t.y.lineage(6),
            () -> t.y.lineageAt(0, 1), () -> t.y.ownerOf(0, 7), () -> t.y.hitShare(), () -> t.y.hitBits(), () -> t.y.isSame(block), () -> t.y.isSame(99),
        };
        for (int i = 0; i < calls.length; i++) {
            due("Exceptions: call " + i + " throws", of(calls[i]).toString().endsWith("Exception"), true);
        }
        due("Exceptions: the last run stays", t.y.steps() + " " + t.y.printed() + " " + t.y.valueAt(0) + " " + t.y.classes(), "2 1 1 6");
        due("Exceptions: no part was taken, no number was given", t.y.choice(print, t.y.proc(block, true), -1), 5);
        due("Exceptions: the file stays", t.y.setFile(0), 0);
    }

    private static void firstListed() {
        OpenclassYard y = new OpenclassYard();
        for (int i = 0; i < 238; i++) {
            y.number(i);
        }
        y.print(0);
        due("Exceptions: a number before a node", of(() -> y.define(20, 0, 0, 999)), IAE);
        due("Exceptions: a number before what is taken", of(() -> y.define(0, 3, 1, 1)), IAE);
        due("Exceptions: no such node before what is taken", of(() -> y.define(0, 0, 0, 999)), IOOBE);
        due("Exceptions: no such node before what is the same", of(() -> y.choice(1, 1, 999)), IOOBE);
        due("Exceptions: the last node", y.print(238), 239);
        due("Exceptions: a number before 240", of(() -> y.message(-1)), IAE);
        due("Exceptions: no such node before 240", of(() -> y.print(240)), IOOBE);
        due("Exceptions: what is taken before 240", of(() -> y.print(0)), UOE);
        due("Exceptions: the same before 240", of(() -> y.both(1, 1)), UOE);
        due("Exceptions: 240", of(() -> y.both(1, 2)), ISE);
        due("Exceptions: no node before the limit", of(() -> y.run(240, 0)), IOOBE);
        due("Exceptions: the limit", of(() -> y.run(239, 0)), IAE);
        due("Exceptions: no class before the message", of(() -> y.ownerOf(0, 20)), IOOBE);
        due("Exceptions: a run", y.run(239, 5), 'd');
        due("Exceptions: the message before what is not found", of(() -> y.ownerOf(0, 20)), IAE);
        due("Exceptions: not found", of(() -> y.ownerOf(0, 19)), "NoSuchElementException");
        due("Exceptions: no class before the place", of(() -> y.lineageAt(6, 0)), IOOBE);
    }
}
