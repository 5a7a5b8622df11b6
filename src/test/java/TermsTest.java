/** The terms of the document, from things to super, sentence by sentence: what each one says of its edges. */
public final class TermsTest extends Check {
    private static final int LEAST = Integer.MIN_VALUE;
    private static final int MOST = Integer.MAX_VALUE;

    public static void main(String[] args) {
        numbersWrap();
        truth();
        classesOfThings();
        sameThings();
        namesAtTheBeginning();
        fields();
        nodesGive();
        files();
        lineagesOfTypes();
        lineagesOfThings();
        lineagesAtEachMoment();
        findingInRefinements();
        findingWhatIsUndefined();
        findingByNumbers();
        orderOfCalls();
        privateCalls();
        protectedCalls();
        builtInNumbers();
        builtInOthers();
        makingObjects();
        missingMethods();
        argumentsOfMethods();
        localsOfMethods();
        superBehind();
        superWithoutNext();
        superOfRefinements();
        eachMessageOfEachThing();
        missingOfTheReceiver();
        end();
    }

    private int kind(int thing) {
        return p(y.choice(thing, n(1), n(2)));
    }

    private int yields(int... arguments) {
        return y.yields(arguments.length > 0 ? arguments[0] : -1, arguments.length > 1 ? arguments[1] : -1);
    }

    private int superNow() {
        return y.superCall(true, -1, -1);
    }

    /** A method that prints a number and goes on with super. */
    private int chain(int message, int number) {
        return define(message, seq(p(n(number)), superNow()));
    }

    private int same(int thing, int other) {
        return p(call(thing, 13, other));
    }

    private int refine(int constant, int body) {
        return y.refine(c(constant), body);
    }

    private int use(int constant) {
        return y.using(c(constant));
    }

    private int extend(int thing, int constant) {
        return y.mix('e', thing, c(constant));
    }

    private int at(int thing, int message, int body) {
        return y.defineOn(thing, message, 0, -1, body);
    }

    private static void numbersWrap() {
        TermsTest t = new TermsTest();
        due("Things: numbers are ints", t.run(t.p(t.n(LEAST)), t.p(t.n(MOST)), t.p(t.n(0)), t.p(t.n(-1))), "d n-2147483648 n2147483647 n0 n-1");
        TermsTest u = new TermsTest();
        due("Things: numbers wrap", u.run(u.p(u.call(u.n(MOST), 10, u.n(1))), u.p(u.call(u.n(LEAST), 11, u.n(1))), u.p(u.call(u.n(LEAST), 10, u.n(LEAST))),
                u.p(u.call(u.n(0), 11, u.n(LEAST))),
                u.p(u.call(u.n(MOST), 10, u.n(-1))), u.p(u.call(u.n(LEAST), 11, u.n(-1)))), "d n-2147483648 n2147483647 n0 n-2147483648 n2147483646 n-2147483647");
        TermsTest v = new TermsTest();
        due("Things: 12 compares numbers, however far apart they are", v.run(v.p(v.call(v.n(LEAST), 12, v.n(MOST))), v.p(v.call(v.n(MOST), 12, v.n(LEAST))),
                v.p(v.call(v.n(LEAST), 12, v.n(LEAST))),
                v.p(v.call(v.n(-1), 12, v.n(0))), v.p(v.call(v.n(0), 12, v.n(-1)))), "d T F F T F");
    }

    private static void truth() {
        TermsTest t = new TermsTest();
        due("Things: nil and false are false", t.run(t.kind(t.nil()), t.kind(t.no())), "d n2 n2");
        TermsTest u = new TermsTest();
        due("Things: all others are true", u.run(u.kind(u.yes()), u.kind(u.n(0)), u.kind(u.n(-1)), u.kind(u.message(0)), u.kind(u.proc(u.block(u.nil()))),
                u.kind(u.lambda(u.block(u.no()))), u.kind(u.fresh(0)), u.kind(u.c(0)),
                u.kind(u.module(6, u.self()))), "d n1 n1 n1 n1 n1 n1 n1 n1 n1");
        TermsTest v = new TermsTest();
        due("Things: in the condition of a loop, too", v.run(v.y.loop(v.nil(), v.p(v.n(1))), v.y.loop(v.no(), v.p(v.n(2))),
                v.y.loop(v.n(0), v.seq(v.p(v.n(3)), v.y.leave('b', -1)))), "d n3");
    }

    private static void classesOfThings() {
        TermsTest t = new TermsTest();
        due("Things: numbers are of the class Number", t.run(t.type(1, t.define(7, t.n(5))), t.p(t.call(t.n(LEAST), 7)), t.p(t.y.isA(t.n(0), t.c(1))),
                t.p(t.y.isA(t.n(0), t.c(0)))), "d n5 T T");
        TermsTest u = new TermsTest();
        due("Things: objects are of their class", u.run(u.type(6, u.define(7, u.n(6))), u.type(7, 6, u.nil()), u.p(u.call(u.fresh(6), 7)), u.p(u.call(u.fresh(7), 7)),
                u.tried(u.call(u.fresh(0), 7)),
                u.p(u.y.isA(u.fresh(6), u.c(7))), u.p(u.y.isA(u.fresh(7), u.c(6)))), "d n6 n6 o3 F T");
        TermsTest v = new TermsTest();
        int things = v.define(7, v.n(0));
        for (int thing : new int[] {v.nil(), v.yes(), v.no(), v.message(1), v.proc(v.block(v.nil())), v.c(1), v.module(9, v.self())}) {
            int local = v.set(0, thing);
            things = v.seq(things, local, v.p(v.call(v.l(0), 7)), v.p(v.y.isA(v.l(0), v.c(1))));
        }
        due("Things: all others are of the class Object", v.run(v.type(1, v.define(7, v.n(1))), things), "d n0 F n0 F n0 F n0 F n0 F n0 F n0 F");
    }

    private static void sameThings() {
        TermsTest t = new TermsTest();
        due("Things: the same number, the same message", t.run(t.same(t.n(1000), t.n(1000)), t.same(t.n(LEAST), t.n(LEAST)), t.same(t.n(1), t.n(2)),
                t.same(t.message(19), t.message(19)), t.same(t.message(0), t.message(1))), "d T T F T F");
        TermsTest u = new TermsTest();
        due("Things: a number is no message, nil, false or class", u.run(u.same(u.n(0), u.message(0)), u.same(u.n(0), u.nil()), u.same(u.n(0), u.no()),
                u.same(u.n(0), u.c(0)), u.same(u.nil(), u.no()), u.same(u.yes(), u.no())), "d F F F F F F");
        TermsTest v = new TermsTest();
        due("Things: others are the same just if they are that thing itself", v.run(v.set(0, v.fresh(0)), v.set(1, v.proc(v.block(v.nil()))), v.same(v.l(0), v.l(0)),
                v.same(v.l(0), v.fresh(0)), v.same(v.l(1), v.l(1)),
                v.same(v.l(1), v.proc(v.block(v.nil()))), v.same(v.c(3), v.c(3)), v.same(v.c(3), v.c(4)), v.same(v.yes(), v.yes()), v.same(v.no(), v.no()),
                        v.same(v.nil(), v.nil())), "d T F T F T F T T T");
    }

    private static void namesAtTheBeginning() {
        TermsTest t = new TermsTest();
        due("Names: the constants of Object at the beginning of a run", t.run(t.p(t.c(0)), t.p(t.c(1)), t.p(t.c(2)), t.p(t.c(3)), t.p(t.c(4)), t.p(t.c(5))),
                "d c0 c1 c2 c3 c4 c5");
        due("Names: Object alone", t.lineage(0), "0");
        due("Names: Number and Error, both with Object above them", t.lineage(1) + "|" + t.lineage(2), "1 0|2 0");
        due("Names: NoMethod, Broken and Frozen with Error above them", t.lineage(3) + "|" + t.lineage(4) + "|" + t.lineage(5), "3 2 0|4 2 0|5 2 0");
        due("Names: no more classes", t.y.classes(), 6);
        for (int constant = 6; constant < 12; constant++) {
            TermsTest u = new TermsTest();
            due("Names: no constant " + constant, u.run(u.c(constant)), "e2");
        }
    }

    private int eachField() {
        int all = nil();
        for (int i = 0; i < 6; i++) {
            all = seq(all, p(y.field(i)), y.setField(i, n(10 + i)));
        }
        for (int i = 0; i < 6; i++) {
            all = seq(all, p(y.field(i)));
        }
        return all;
    }

    private static void fields() {
        String due = "d N N N N N N n10 n11 n12 n13 n14 n15";
        TermsTest t = new TermsTest();
        due("Names: the fields 0 to 5 of objects", t.run(t.type(6, t.define(7, t.eachField())), t.call(t.fresh(6), 7)), due);
        TermsTest u = new TermsTest();
        due("Names: the fields 0 to 5 of classes", u.run(u.type(6, u.eachField())), due);
        TermsTest v = new TermsTest();
        due("Names: the fields 0 to 5 of modules", v.run(v.module(6, v.eachField())), due);
    }

    private static void nodesGive() {
        TermsTest t = new TermsTest();
        due("Nodes: nil unless something else is told", t.run(t.define(7, t.n(1)), t.p(t.y.alias(8, 7)), t.p(t.y.hide(8, 'r')), t.p(t.y.undefine(8)),
                t.p(t.y.visibility('u')), t.p(t.y.loop(t.no(), t.n(1))),
                t.p(t.y.choice(t.no(), t.n(1), -1)), t.p(t.l(0)), t.p(t.y.field(0))), "d N N N N N N N N");
        TermsTest u = new TermsTest();
        due("Nodes: what is told to be given", u.run(u.p(u.set(0, u.n(1))), u.p(u.y.setConstant(6, u.n(2))), u.p(u.define(7, u.n(3))), u.p(u.at(u.c(0), 8, u.n(4))),
                u.p(u.y.freeze(u.n(5))), u.p(u.p(u.n(6))), u.p(u.type(8, u.n(7))),
                u.p(u.module(9, u.seq(u.refine(8, u.n(8)), u.p(u.refine(8, u.n(9))), u.n(10)))), u.p(u.include(9)), u.p(u.use(9))),
                        "d n1 n2 s7 s8 n5 n6 n6 n7 n9 n10 m7 m7");
    }

    /** In each file the method of a refinement is found behind its using, and in no other file. */
    private static void files() {
        for (int file = 0; file < 4; file++) {
            TermsTest t = new TermsTest();
            int refined = t.module(8, t.refine(1, t.define(7, t.n(8))));
            t.y.setFile(file);
            int all = t.seq(refined, t.use(8));
            for (int other = 0; other < 4; other++) {
                t.y.setFile(other);
                all = t.seq(all, t.p(t.y.responds(t.n(1), 7)));
            }
            String due = "d";
            for (int other = 0; other < 4; other++) {
                due += other == file ? " T" : " F";
            }
            due("Nodes: a node is in the file that was set last, here " + file, t.run(all), due);
        }
        TermsTest u = new TermsTest();
        int refined = u.module(8, u.refine(1, u.define(7, u.n(8))));
        int using = u.use(8);
        int before = u.p(u.y.responds(u.n(1), 7));
        u.y.setFile(3);
        due("Nodes: a node stays in its file when another one is set", u.run(u.seq(refined, using, before)), "d T");
    }

    private static void lineagesOfTypes() {
        TermsTest t = new TermsTest();
        t.run(t.module(7, t.nil()), t.module(8, t.nil()), t.module(9, t.nil()), t.module(10, t.nil()), t.type(6, t.nil()),
                t.type(11, 6, t.seq(t.include(7), t.include(8), t.ahead(9), t.ahead(10))));
        due("Lineages: modules put ahead, the last one first; itself; included ones, the last one first; the class above", t.lineage(11), "9 8 11 7 6 10 0");
        due("Lineages: of a module itself alone", t.lineage(6) + "|" + t.lineage(9), "6|9");
        TermsTest u = new TermsTest();
        u.run(u.module(7, u.nil()), u.module(8, u.nil()), u.module(9, u.seq(u.include(7), u.ahead(8))), u.type(6, u.include(9)), u.type(10, u.ahead(9)));
        due("Lineages: those of modules, with what is ahead and behind in them", u.lineage(8) + "|" + u.lineage(9) + "|" + u.lineage(10), "7 8 6|9 7 8 6 0|7 8 6 10 0");
        TermsTest v = new TermsTest();
        v.run(v.module(7, v.nil()), v.module(8, v.nil()), v.type(6, v.include(7)), v.type(9, 6, v.seq(v.include(7), v.include(8), v.ahead(8))));
        due("Lineages: each place once, where it stands first", v.lineage(9), "7 9 6 8 0");
        TermsTest w = new TermsTest();
        w.run(w.module(7, w.nil()), w.module(8, w.nil()), w.include(7), w.ahead(8));
        due("Lineages: nothing is above Object", w.lineage(0) + "|" + w.lineage(3), "7 0 6|3 2 7 0 6");
    }

    private static void lineagesOfThings() {
        TermsTest t = new TermsTest();
        due("Lineages: own place, modules that extend it, the last one first, then its class", t.run(t.define(7, t.p(t.n(0))), t.module(8, t.chain(7, 8)),
                t.module(9, t.chain(7, 9)), t.type(6, t.chain(7, 6)), t.set(0, t.fresh(6)),
                t.at(t.l(0), 7, t.seq(t.p(t.n(1)), t.superNow())), t.extend(t.l(0), 8), t.extend(t.l(0), 9), t.call(t.l(0), 7)), "d n1 n9 n8 n6 n0");
        TermsTest u = new TermsTest();
        due("Lineages: for a class, then the same for each class above it, up to Object", u.run(u.module(9, u.chain(7, 9)), u.module(10, u.chain(7, 10)),
                u.module(11, u.chain(7, 11)), u.type(6, u.nil()), u.type(8, 6, u.nil()),
                u.at(u.c(8), 7, u.seq(u.p(u.n(1)), u.superNow())), u.extend(u.c(8), 9), u.at(u.c(6), 7, u.seq(u.p(u.n(2)), u.superNow())), u.extend(u.c(6), 10),
                        u.at(u.c(0), 7, u.seq(u.p(u.n(3)), u.superNow())), u.extend(u.c(0), 11),
                u.define(7, u.p(u.n(0))), u.call(u.c(8), 7)), "d n1 n9 n2 n10 n3 n11 n0");
        TermsTest v = new TermsTest();
        due("Lineages: not for a module, nor for what is made of the class", v.run(v.at(v.c(0), 7, v.n(1)), v.module(8, v.nil()), v.tried(v.call(v.c(8), 7)),
                v.tried(v.call(v.fresh(0), 7)), v.p(v.call(v.c(5), 7)), v.module(9, v.define(9, v.n(9))),
                v.extend(v.c(8), 9), v.p(v.call(v.c(8), 9))), "d o3 o3 n1 n9");
        TermsTest w = new TermsTest();
        due("Lineages: a class is no class of itself", w.run(w.type(6, w.define(7, w.n(6))), w.tried(w.call(w.c(6), 7)), w.p(w.y.isA(w.c(6), w.c(6))),
                w.p(w.y.isA(w.c(0), w.c(0)))), "d o3 F T");
    }

    private static void lineagesAtEachMoment() {
        TermsTest t = new TermsTest();
        due("Lineages: as they are at each moment", t.run(t.module(8, t.nil()), t.module(9, t.define(7, t.n(9))), t.type(6, t.include(8)), t.set(0, t.fresh(6)),
                t.p(t.y.responds(t.l(0), 7)), t.module(8, t.include(9)),
                t.p(t.call(t.l(0), 7))), "d F n9");
        due("Lineages: behind the run", t.lineage(8), "8 6 7 0");
    }

    private static void findingInRefinements() {
        TermsTest t = new TermsTest();
        due("Finding: at each place first in refinements of it, the last one used first, then in what it has itself",
                t.run(t.type(6, t.seq(t.define(7, t.n(6)), t.define(8, t.n(60)), t.define(9, t.n(600)))),
                t.module(8, t.refine(6, t.seq(t.define(7, t.n(8)), t.define(8, t.n(80))))), t.module(9, t.refine(6, t.define(7, t.n(9)))), t.use(8), t.use(9),
                        t.set(0, t.fresh(6)),
                t.p(t.call(t.l(0), 7)), t.p(t.call(t.l(0), 8)), t.p(t.call(t.l(0), 9))), "d n9 n80 n600");
        TermsTest u = new TermsTest();
        due("Finding: a place that stands before comes first, refined or not", u.run(u.type(6, u.define(7, u.n(6))),
                u.module(8, u.seq(u.refine(0, u.define(7, u.n(8))), u.refine(0, u.define(9, u.n(9))))), u.use(8), u.p(u.call(u.fresh(6), 7)), u.p(u.call(u.fresh(6), 9)),
                u.p(u.call(u.nil(), 7))), "d n6 n9 n8");
        TermsTest v = new TermsTest();
        due("Finding: a module that is used again is the last one", v.run(v.module(8, v.refine(1, v.define(7, v.n(8)))), v.module(9, v.refine(1, v.define(7, v.n(9)))),
                v.use(8), v.use(9), v.p(v.call(v.n(1), 7)), v.use(8), v.p(v.call(v.n(1), 7))), "d n9 n8");
        TermsTest w = new TermsTest();
        due("Finding: a module that is used without a refinement of the place leaves others as they are",
                w.run(w.module(8, w.refine(1, w.define(7, w.n(8)))), w.module(9, w.refine(0, w.define(7, w.n(9)))), w.use(8), w.use(9), w.p(w.call(w.n(1), 7))), "d n8");
    }

    private static void findingWhatIsUndefined() {
        TermsTest t = new TermsTest();
        due("Finding: what was undefined there hides all behind it", t.run(t.define(7, t.n(0)), t.define(13, t.n(1)),
                t.type(6, t.seq(t.define(7, t.n(6)), t.y.undefine(7), t.y.undefine(13))), t.type(8, 6, t.nil()), t.tried(t.call(t.fresh(6), 7)),
                t.tried(t.call(t.fresh(8), 7)), t.tried(t.call(t.fresh(8), 13)), t.p(t.y.responds(t.fresh(8), 7)), t.p(t.send(7))), "d o3 o3 o3 F n0");
        TermsTest u = new TermsTest();
        due("Finding: not what stands before it", u.run(u.define(7, u.n(0)), u.type(6, u.y.undefine(7)), u.type(8, 6, u.define(7, u.n(8))), u.p(u.call(u.fresh(8), 7)),
                u.set(0, u.fresh(6)), u.at(u.l(0), 7, u.n(1)), u.p(u.call(u.l(0), 7)),
                u.module(9, u.refine(6, u.define(7, u.n(9)))), u.use(9), u.p(u.call(u.fresh(6), 7))), "d n8 n1 n9");
        TermsTest v = new TermsTest();
        due("Finding: until it is defined again", v.run(v.define(7, v.n(0)), v.type(6, v.y.undefine(7)), v.tried(v.call(v.fresh(6), 7)), v.type(6, v.define(7, v.n(6))),
                v.p(v.call(v.fresh(6), 7))), "d o3 n6");
        TermsTest w = new TermsTest();
        due("Finding: 0, 1 and the hooks are hidden, too", w.run(w.define(0, w.p(w.n(9))), w.define(1, 2, w.l(0)), w.define(3, 1, w.p(w.n(9))),
                w.define(4, 1, w.p(w.n(9))), w.define(5, 1, w.nil()), w.type(6, w.seq(w.y.undefine(0), w.y.undefine(1))),
                w.p(w.fresh(6)), w.tried(w.call(w.fresh(6), 7)), w.p(w.call(w.fresh(0), 7))), "d n9 o6 o3 n9 s7");
    }

    /** A refinement is used by nodes with greater numbers than the node by which it was, wherever and whenever they begin. */
    private static void findingByNumbers() {
        TermsTest t = new TermsTest();
        int refined = t.module(8, t.refine(1, t.define(7, t.n(8))));
        int before = t.p(t.y.responds(t.n(1), 7));
        int using = t.use(8);
        int behind = t.p(t.y.responds(t.n(1), 7));
        due("Finding: nodes with greater numbers", t.run(refined, using, behind, before), "d T F");
        TermsTest u = new TermsTest();
        refined = u.module(8, u.refine(1, u.define(7, u.n(8))));
        using = u.use(8);
        behind = u.p(u.y.responds(u.n(1), 7));
        due("Finding: not before the using was done", u.run(refined, behind, using), "d F");
        TermsTest v = new TermsTest();
        int looping = v.set(0, v.n(0));
        int asking = v.p(v.y.responds(v.n(1), 7));
        int all = v.seq(v.module(8, v.refine(1, v.define(7, v.n(8)))), looping, v.y.loop(v.call(v.set(0, v.call(v.l(0), 10, v.n(1))), 12, v.n(3)),
                v.seq(v.p(v.y.responds(v.n(1), 7)), v.use(8), v.p(v.y.responds(v.n(1), 7)), asking)));
        due("Finding: in a loop, by numbers alone", v.run(all), "d F T F F T F");
        TermsTest w = new TermsTest();
        refined = w.seq(w.module(8, w.refine(1, w.define(7, w.n(8)))), w.module(9, w.refine(1, w.define(7, w.n(9)))));
        int second = w.use(9);
        int first = w.use(8);
        due("Finding: the last one used first, whatever its number", w.run(refined, first, second, w.p(w.call(w.n(1), 7))), "d n9");
        TermsTest x = new TermsTest();
        refined = x.module(8, x.refine(1, x.define(7, x.n(8))));
        int calling = x.define(9, x.p(x.y.responds(x.n(1), 7)));
        using = x.use(8);
        due("Finding: a call stands where its node is, not where its method is called", x.run(refined, calling, using, x.send(9)), "d F");
    }

    private static void orderOfCalls() {
        TermsTest t = new TermsTest();
        due("Calls: the receiver, then the arguments, from the left to the right", t.run(t.define(7, 2, t.p(t.n(4))), t.call(t.p(t.n(1)), 7, t.p(t.n(2)), t.p(t.n(3)))),
                "d n1 n2 n3 n4");
        TermsTest u = new TermsTest();
        due("Calls: a receiver that raises ends the call", u.run(u.define(7, 2, u.p(u.n(4))), u.tried(u.call(u.c(6), 7, u.p(u.n(2)), u.p(u.n(3)))),
                u.tried(u.call(u.p(u.n(1)), 7, u.c(6), u.p(u.n(3))))), "d o2 n1 o2");
        TermsTest v = new TermsTest();
        due("Calls: the method is found behind the arguments", v.run(v.call(v.n(1), 7, v.define(7, 1, v.p(v.l(0))))), "d s7");
    }

    private static void privateCalls() {
        TermsTest t = new TermsTest();
        due("Calls: a private method just by a call without a receiver", t.run(t.type(6, t.seq(t.y.visibility('r'), t.define(7, t.n(7)), t.y.visibility('u'),
                t.define(8, t.p(t.send(7))), t.define(9, t.call(t.self(), 7)),
                t.define(2, t.y.safeCall(t.self(), 7, -1, -1)))), t.set(0, t.fresh(6)), t.call(t.l(0), 8), t.tried(t.call(t.l(0), 9)), t.tried(t.call(t.l(0), 2)),
                        t.tried(t.call(t.l(0), 7))), "d n7 o3 o3 o3");
        TermsTest u = new TermsTest();
        due("Calls: what is private is no built-in message, and goes to 1", u.run(u.define(13, u.n(1)), u.y.hide(13, 'r'), u.tried(u.call(u.n(1), 13, u.n(1))),
                u.p(u.send(13)), u.define(1, 2, u.l(0)), u.p(u.call(u.n(1), 13, u.n(1)))), "d o3 n1 s13");
    }

    private static void protectedCalls() {
        TermsTest t = new TermsTest();
        due("Calls: a protected method just if its place is in the lineage of self, too, or without a receiver",
                t.run(t.type(6, t.seq(t.y.visibility('o'), t.define(7, t.n(7)), t.y.visibility('u'), t.define(8, 1, t.call(t.l(0), 7)), t.define(9, t.send(7)))),
                t.type(8, 6, t.define(2, 1, t.call(t.l(0), 7))), t.define(2, 1, t.call(t.l(0), 7)), t.p(t.call(t.fresh(6), 8, t.fresh(8))),
                        t.p(t.call(t.fresh(8), 2, t.fresh(6))), t.p(t.call(t.fresh(6), 9)), t.tried(t.call(t.nil(), 2, t.fresh(6))),
                t.tried(t.call(t.fresh(6), 7))), "d n7 n7 n7 o3 o3");
        TermsTest u = new TermsTest();
        due("Calls: the place where it was found, not the class of the receiver", u.run(u.type(6, u.seq(u.define(7, u.n(6)), u.y.hide(7, 'o'))),
                u.type(8, 6, u.seq(u.define(7, u.n(8)), u.y.hide(7, 'o'))), u.type(6, u.define(9, 1, u.call(u.l(0), 7))),
                u.p(u.call(u.fresh(6), 9, u.fresh(6))), u.tried(u.call(u.fresh(6), 9, u.fresh(8))), u.p(u.call(u.fresh(8), 9, u.fresh(8)))), "d n6 o3 n8");
        TermsTest v = new TermsTest();
        due("Calls: a module that self is extended by counts", v.run(v.module(9, v.seq(v.y.visibility('o'), v.define(7, v.n(9)))), v.type(6, v.include(9)),
                v.define(8, 1, v.call(v.l(0), 7)), v.set(0, v.fresh(0)), v.tried(v.call(v.l(0), 8, v.fresh(6))),
                v.extend(v.l(0), 9), v.p(v.call(v.l(0), 8, v.fresh(6)))), "d o3 n9");
    }

    private static void builtInNumbers() {
        for (int message = 10; message <= 12; message++) {
            TermsTest t = new TermsTest();
            due("Calls: " + message + " with another argument, or none", t.run(t.tried(t.call(t.n(1), message)), t.tried(t.call(t.n(1), message, t.nil())),
                    t.tried(t.call(t.n(1), message, t.yes())), t.tried(t.call(t.n(1), message, t.message(1))),
                    t.tried(t.call(t.n(1), message, t.c(1))), t.tried(t.call(t.n(1), message, t.fresh(0)))), "d o2 o2 o2 o2 o2 o2");
            TermsTest u = new TermsTest();
            due("Calls: " + message + " of what is no number", u.run(u.tried(u.call(u.nil(), message, u.n(1))), u.tried(u.call(u.message(1), message, u.n(1))),
                    u.tried(u.call(u.c(1), message, u.n(1))), u.tried(u.call(u.fresh(0), message, u.n(1)))), "d o3 o3 o3 o3");
            TermsTest v = new TermsTest();
            due("Calls: further arguments of " + message + " are left out", v.run(v.call(v.n(1), message, v.n(1), v.nil()),
                    v.p(v.call(v.n(3), message, v.n(5), v.p(v.nil())))), "d N " + (message == 10 ? "n8" : message == 11 ? "n-2" : "T"));
        }
    }

    private static void builtInOthers() {
        TermsTest t = new TermsTest();
        due("Calls: 13 of all things, with the first argument or nil", t.run(t.p(t.call(t.nil(), 13)), t.p(t.call(t.no(), 13)), t.p(t.call(t.n(0), 13)),
                t.p(t.call(t.n(1), 13, t.n(1), t.n(2))), t.p(t.send(13))), "d T F F T T");
        TermsTest u = new TermsTest();
        due("Calls: 15 of a proc alone", u.run(u.p(u.call(u.proc(u.block(u.n(1))), 15)), u.p(u.call(u.lambda(u.block(0, u.l(0))), 15, u.n(2))),
                u.tried(u.call(u.nil(), 15)), u.tried(u.call(u.n(1), 15)), u.tried(u.call(u.fresh(0), 15)), u.tried(u.call(u.c(0), 15))), "d n1 n2 o3 o3 o3 o3");
        TermsTest v = new TermsTest();
        due("Calls: 16 of an object alone, nil at first; further arguments are left out", v.run(v.p(v.call(v.fresh(2), 16)), v.p(v.call(v.fresh(0), 16, v.n(1), v.n(2))),
                v.tried(v.call(v.c(2), 16)), v.tried(v.call(v.n(1), 16)), v.tried(v.call(v.nil(), 16))), "d N N o3 o3 o3");
        TermsTest w = new TermsTest();
        due("Calls: 14 of a class alone", w.run(w.module(9, w.nil()), w.p(w.fresh(0)), w.p(w.fresh(5)), w.tried(w.fresh(9)), w.tried(w.call(w.n(1), 14)),
                w.tried(w.call(w.fresh(0), 14)), w.tried(w.call(w.nil(), 14))), "d o0 o5 o3 o3 o3 o3");
        TermsTest x = new TermsTest();
        due("Calls: 14 of Number itself, not of a class below it, raises", x.run(x.tried(x.fresh(1)), x.tried(x.fresh(1, x.n(1))), x.type(6, 1, x.nil()),
                x.p(x.fresh(6))), "d o2 o2 o6");
        TermsTest z = new TermsTest();
        due("Calls: none of them where something hides it", z.run(z.type(0, z.seq(z.define(13, z.nil()), z.y.undefine(13), z.define(16, z.nil()), z.y.undefine(16),
                z.define(15, z.nil()), z.y.undefine(15), z.define(14, z.nil()), z.y.undefine(14))), z.tried(z.call(z.n(1), 13)),
                z.tried(z.call(z.y.attempt(z.y.raises(z.c(2)), -1, 0, z.l(0), -1, -1), 16)), z.tried(z.call(z.proc(z.block(z.nil())), 15)), z.tried(z.fresh(0))),
                        "d o3 o3 o3 o3");
    }

    private static void makingObjects() {
        TermsTest t = new TermsTest();
        due("Calls: 14 calls 0 with the arguments, and gives the object", t.run(t.type(6, t.y.define(0, 1, t.n(9), t.seq(t.p(t.l(0)), t.p(t.l(1)), t.n(5)))),
                t.p(t.fresh(6, t.n(1))), t.p(t.fresh(6, t.n(2), t.n(3)))), "d n1 n9 o6 n2 n3 o6");
        TermsTest u = new TermsTest();
        due("Calls: 0 with fewer or more arguments", u.run(u.type(6, u.define(0, 1, u.nil())), u.tried(u.fresh(6)), u.tried(u.fresh(6, u.n(1), u.n(2))),
                u.p(u.fresh(6, u.n(1)))), "d o2 o2 o6");
        TermsTest v = new TermsTest();
        due("Calls: without 0 arguments are left out", v.run(v.p(v.fresh(0)), v.p(v.fresh(0, v.n(1))), v.p(v.fresh(0, v.n(1), v.n(2)))), "d o0 o0 o0");
        TermsTest w = new TermsTest();
        due("Calls: 0 as without a receiver", w.run(w.type(6, w.seq(w.define(0, w.p(w.n(1))), w.y.hide(0, 'r'))),
                w.type(7, w.seq(w.define(0, w.p(w.n(2))), w.y.hide(0, 'o'))), w.p(w.fresh(6)), w.p(w.fresh(7))), "d n1 o6 n2 o7");
    }

    private static void missingMethods() {
        TermsTest t = new TermsTest();
        due("Calls: 1 is called with the message and the first argument, or nil", t.run(t.define(1, 2, t.seq(t.p(t.l(0)), t.p(t.l(1)))), t.send(0), t.send(19, t.n(1)),
                t.send(8, t.n(2), t.n(3))), "d s0 N s19 n1 s8 n2");
        TermsTest u = new TermsTest();
        due("Calls: and with the block", u.run(u.define(1, 2, u.yields(u.l(0))), u.p(u.give(7, u.block(3, u.l(3)))), u.tried(u.send(7))), "d s7 o4");
        TermsTest v = new TermsTest();
        due("Calls: whoever may call it", v.run(v.type(6, v.seq(v.define(1, 2, v.n(1)), v.y.hide(1, 'r'))), v.type(7, v.seq(v.define(1, 2, v.n(2)), v.y.hide(1, 'o'))),
                v.p(v.call(v.fresh(6), 7)), v.p(v.call(v.fresh(7), 7)), v.p(v.call(v.fresh(6), 1))), "d n1 n2 n1");
        TermsTest w = new TermsTest();
        due("Calls: otherwise a new NoMethod", w.run(w.tried(w.send(0)), w.tried(w.send(1)), w.tried(w.send(19)), w.tried(w.call(w.n(1), 7)),
                w.tried(w.y.safeCall(w.n(1), 7, -1, -1))), "d o3 o3 o3 o3 o3");
    }

    private static void argumentsOfMethods() {
        for (int needed = 0; needed < 3; needed++) {
            for (int count = 0; count < 3; count++) {
                TermsTest t = new TermsTest();
                int[] told = new int[count];
                for (int i = 0; i < count; i++) {
                    told[i] = t.n(1);
                }
                due("Methods: " + needed + " needed, " + count + " told", t.run(t.define(7, needed, t.nil()), t.tried(t.send(7, told)), t.p(t.n(1))),
                        needed == count ? "d n1" : "d o2 n1");
                TermsTest u = new TermsTest();
                told = new int[count];
                for (int i = 0; i < count; i++) {
                    told[i] = u.n(1);
                }
                boolean isRight = count == needed || count == needed + 1;
                due("Methods: " + needed + " needed and a default, " + count + " told", u.run(u.y.define(7, needed, u.p(u.n(2)), u.nil()), u.tried(u.send(7, told))),
                        !isRight ? "d o2" : count == needed ? "d n2" : "d");
            }
        }
    }

    private static void localsOfMethods() {
        TermsTest t = new TermsTest();
        due("Methods: parameters are its locals from 0 on; all others are nil at first", t.run(t.y.define(7, 1, t.n(9),
                t.seq(t.p(t.l(0)), t.p(t.l(1)), t.p(t.l(2)), t.p(t.l(5)), t.set(2, t.n(8)), t.set(5, t.n(8)))), t.set(2, t.n(7)), t.send(7, t.n(1)),
                t.send(7, t.n(2), t.n(3))), "d n1 n9 N N n2 n3 N N");
        TermsTest u = new TermsTest();
        due("Methods: the default is worked out in it", u.run(u.set(0, u.n(50)), u.y.define(7, 1, u.call(u.l(0), 10, u.y.choice(u.l(1), u.n(100), u.n(1))), u.l(1)),
                u.p(u.send(7, u.n(5))), u.p(u.call(u.n(3), 7, u.n(6))), u.type(6, u.y.define(8, 0, u.self(), u.l(0))), u.p(u.call(u.fresh(6), 8))),
                "d n6 n7 o6");
        TermsTest v = new TermsTest();
        due("Methods: it gives what its body gives", v.run(v.define(7, v.nil()), v.define(8, v.seq(v.n(1), v.n(2))), v.p(v.send(7)), v.p(v.send(8))), "d N n2");
    }

    private static void superBehind() {
        TermsTest t = new TermsTest();
        due("Super: behind the place where this one was found", t.run(t.define(7, t.p(t.n(0))), t.module(9, t.chain(7, 9)), t.type(6, t.seq(t.chain(7, 6), t.include(9))),
                t.type(8, 6, t.chain(7, 8)), t.call(t.fresh(8), 7), t.call(t.fresh(6), 7)), "d n8 n6 n9 n0 n6 n9 n0");
        TermsTest u = new TermsTest();
        due("Super: private or not", u.run(u.type(6, u.seq(u.define(7, u.n(6)), u.y.hide(7, 'r'), u.define(8, u.n(60)), u.y.hide(8, 'o'))),
                u.type(9, 6, u.seq(u.define(7, u.superNow()), u.define(8, u.superNow()))), u.p(u.call(u.fresh(9), 7)), u.p(u.call(u.fresh(9), 8))), "d n6 n60");
        TermsTest v = new TermsTest();
        due("Super: of the message for which it was defined", v.run(v.define(7, v.n(7)), v.define(8, v.n(8)),
                v.type(6, v.seq(v.define(7, v.superNow()), v.y.alias(8, 7))), v.p(v.call(v.fresh(6), 8))), "d n7");
        TermsTest w = new TermsTest();
        due("Super: with the block, too", w.run(w.define(7, w.yields(w.n(4))), w.type(6, w.define(7, w.y.superCall(false, -1, -1))),
                w.p(w.y.call(w.fresh(6), 7, -1, -1, w.block(2, w.l(2)))), w.tried(w.call(w.fresh(6), 7))), "d n4 o4");
        TermsTest x = new TermsTest();
        due("Super: with the arguments that are told, too few or too many", x.run(x.define(7, 1, x.p(x.l(0))),
                x.type(6, x.seq(x.define(7, 2, x.y.superCall(false, x.l(1), -1)), x.define(8, x.nil()))), x.type(8, 6, x.define(7, x.y.superCall(false, -1, -1))),
                x.type(9, x.define(7, x.y.superCall(false, x.n(1), x.n(2)))), x.type(10, x.define(7, x.y.superCall(false, -1, -1))),
                        x.call(x.fresh(6), 7, x.n(1), x.n(2)), x.tried(x.call(x.fresh(8), 7)), x.tried(x.call(x.fresh(9), 7)), x.tried(x.call(x.fresh(10), 7))),
                        "d n2 o2 o2 o2");
    }

    private static void superWithoutNext() {
        TermsTest t = new TermsTest();
        due("Super: with none, as a call for which nothing is found", t.run(t.define(7, t.superNow()), t.tried(t.send(7)),
                t.define(1, 2, t.seq(t.p(t.l(0)), t.p(t.l(1)), t.yields())), t.define(7, 2, t.superNow()), t.p(t.y.call(-1, 7, t.n(1), t.n(2), t.block(t.n(3))))),
                "d o3 s7 n1 n3");
        TermsTest u = new TermsTest();
        due("Super: 10 to 12 count", u.run(u.type(1, u.seq(u.define(10, 1, u.superNow()), u.define(11, 1, u.superNow()), u.define(12, u.superNow()))),
                u.p(u.call(u.n(1), 10, u.n(2))), u.p(u.call(u.n(1), 11, u.n(2))), u.tried(u.call(u.n(1), 12)), u.tried(u.call(u.n(1), 10, u.nil()))), "d n3 n-1 o2 o2");
        TermsTest v = new TermsTest();
        due("Super: 13 to 16 count", v.run(v.type(0, v.seq(v.define(13, 1, v.superNow()), v.y.define(14, 0, v.nil(), v.y.superCall(false, -1, -1)),
                v.define(15, 1, v.superNow()), v.define(16, v.superNow()))), v.p(v.call(v.n(1), 13, v.n(1))), v.p(v.fresh(4)), v.tried(v.fresh(1)),
                v.p(v.call(v.proc(v.block(0, v.l(0))), 15, v.n(5))), v.tried(v.call(v.n(1), 15, v.n(5))), v.p(v.call(v.fresh(0), 16)), v.tried(v.call(v.n(1), 16))),
                        "d T o4 o2 n5 o3 N o3");
    }

    private static void superOfRefinements() {
        TermsTest t = new TermsTest();
        due("Super: from a refinement on what its place has itself", t.run(t.type(6, t.define(7, t.p(t.n(6)))), t.type(8, 6, t.chain(7, 8)),
                t.module(9, t.refine(8, t.chain(7, 9))), t.use(9), t.call(t.fresh(8), 7)), "d n9 n8 n6");
        TermsTest u = new TermsTest();
        due("Super: or behind it, but no other refinement of that place", u.run(u.type(6, u.define(7, u.p(u.n(6)))), u.type(8, 6, u.nil()),
                u.module(9, u.refine(8, u.define(7, u.p(u.n(9))))), u.module(10, u.refine(8, u.chain(7, 10))), u.use(9), u.use(10), u.call(u.fresh(8), 7)), "d n10 n6");
        TermsTest v = new TermsTest();
        due("Super: refinements of the places behind count where super stands", v.run(v.type(6, v.define(7, v.p(v.n(6)))), v.module(9, v.refine(6, v.chain(7, 9))),
                v.use(9), v.type(8, 6, v.chain(7, 8)), v.call(v.fresh(8), 7)), "d n8 n9 n6");
        TermsTest w = new TermsTest();
        due("Super: and not where they are not used", w.run(w.type(6, w.define(7, w.p(w.n(6)))), w.module(9, w.refine(6, w.chain(7, 9))), w.type(8, 6, w.chain(7, 8)),
                w.use(9), w.call(w.fresh(8), 7)), "d n8 n6");
        TermsTest x = new TermsTest();
        due("Super: from a refinement that is used where super stands, too", x.run(x.type(6, x.define(7, x.p(x.n(6)))),
                x.type(8, 6, x.define(7, x.seq(x.p(x.n(8)), x.superNow()))), x.module(9, x.nil()), x.use(9),
                x.module(9, x.seq(x.refine(8, x.chain(7, 9)), x.refine(6, x.chain(7, 60)))), x.call(x.fresh(8), 7)), "d n9 n8 n6");
        TermsTest z = new TermsTest();
        due("Super: and on to refinements of the places behind", z.run(z.type(6, z.define(7, z.p(z.n(6)))), z.type(8, 6, z.nil()), z.module(9, z.nil()), z.use(9),
                z.module(9, z.seq(z.refine(8, z.chain(7, 9)), z.refine(6, z.chain(7, 60)))), z.call(z.fresh(8), 7)), "d n9 n60 n6");
    }

    /** What each message answers, of each kind of thing, when nothing is defined. */
    private static void eachMessageOfEachThing() {
        for (int message = 0; message < 20; message++) {
            TermsTest t = new TermsTest();
            int all = t.module(9, t.nil());
            for (int thing : new int[] {t.n(0), t.n(1), t.n(2), t.n(6), t.nil(), t.yes(), t.no(), t.message(2), t.proc(t.block(t.n(9))), t.fresh(0), t.fresh(2), t.c(0),
                    t.c(9)}) {
                all = t.seq(all, t.y.attempt(t.p(t.call(thing, message)), -1, 5, t.p(t.l(5)), -1, -1));
            }
            String due = " o3".repeat(13);
            if (message >= 10 && message <= 12) {
                due = " o2".repeat(4) + " o3".repeat(9);
            } else if (message == 13) {
                due = " F F F F T" + " F".repeat(8);
            } else if (message == 14) {
                due = " o3".repeat(11) + " o0 o3";
            } else if (message == 15) {
                due = " o3".repeat(8) + " n9" + " o3".repeat(4);
            } else if (message == 16) {
                due = " o3".repeat(9) + " N N o3 o3";
            }
            due("Calls: " + message + " of each kind of thing", t.run(all), "d" + due);
        }
    }

    /** What was found before, kept or not, does not change where 1 is looked for. */
    private static void missingOfTheReceiver() {
        TermsTest t = new TermsTest();
        due("Calls: 1 of the receiver, also if it was kept that nothing is found", t.run(t.type(6, t.define(1, 2, t.n(1))), t.set(1, t.fresh(6)),
                t.define(8, 1, t.p(t.call(t.l(0), 9))), t.send(8, t.l(1)), t.send(8, t.l(1)), t.tried(t.send(8, t.nil()))), "d n1 n1 o3");
        TermsTest u = new TermsTest();
        due("Calls: 1 of the receiver, not of self, for what is protected", u.run(u.type(6, u.seq(u.define(1, 2, u.n(1)), u.define(7, u.nil()), u.y.hide(7, 'o'))),
                u.type(8, u.seq(u.define(1, 2, u.n(8)), u.define(9, 1, u.call(u.l(0), 7)))), u.p(u.call(u.fresh(8), 9, u.fresh(6))), u.define(9, 1, u.call(u.l(0), 7)),
                u.p(u.send(9, u.fresh(6)))), "d n1 n1");
    }
}
