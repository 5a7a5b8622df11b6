import java.util.Random;

/**
 * Random programs. Most of what stands in them fits together, as what is put together quite at random hardly ever comes to
 * a method: 6 and 7 are classes, 8 and 9 modules, 7 to 9 and 18 methods, of which 9 yields; what is raised is mostly got.
 */
final class Programs extends Twin {
    private final Random random;
    private int most;
    private int definitions = 0;
    private int insides = 0;

    Programs(long seed) {
        random = new Random(seed);
    }

    boolean perhaps(double share) {
        return random.nextDouble() < share;
    }

    int below(int bound) {
        return random.nextInt(bound);
    }

    private int any(int... numbers) {
        return numbers[below(numbers.length)];
    }

    private char anyOf(String signs) {
        return signs.charAt(below(signs.length()));
    }

    private boolean isFull() {
        return size() > most;
    }

    private int someMessage() {
        return perhaps(0.75) ? any(7, 7, 8, 9, 18) : perhaps(0.4) ? any(0, 1, 3, 4, 5) : perhaps(0.8) ? 10 + below(7) : below(20);
    }

    private int definedMessage() {
        return perhaps(0.88) ? any(7, 7, 7, 8, 9, 18) : someMessage();
    }

    private int someClass() {
        return perhaps(0.85) ? any(6, 7) : perhaps(0.7) ? below(6) : below(12);
    }

    private int someModule() {
        return perhaps(0.9) ? any(8, 9) : below(12);
    }

    private int someType() {
        return perhaps(0.5) ? someClass() : someModule();
    }

    private int argumentsOf(int message) {
        if (perhaps(0.1)) {
            return below(3);
        }
        return switch (message) {
            case 7, 8, 9, 14, 16 -> 0;
            case 18, 10, 11, 12, 13, 3, 4, 5 -> 1;
            case 1 -> 2;
            default -> below(3);
        };
    }

    private int leaf() {
        return switch (below(11)) {
            case 0, 1, 2 -> number(any(0, 1, 2, 3, -1, Integer.MAX_VALUE));
            case 3 -> message(someMessage());
            case 4 -> plain(anyOf("NTFS"));
            case 5, 6, 7 -> local(below(6));
            case 8 -> field(below(3));
            case 9 -> constant(perhaps(0.7) ? below(6) : someType());
            default -> plain('S');
        };
    }

    private int fresh() {
        return call(constant(someClass()), 14, -1, -1, -1);
    }

    private int thing(int depth) {
        return switch (below(8)) {
            case 0, 1, 2 -> local(below(2));
            case 3 -> constant(someType());
            case 4 -> plain('S');
            case 5 -> definitions > 0 ? plain('S') : number(below(3));
            case 6 -> node(depth - 1);
            default -> fresh();
        };
    }

    private int optional(double share, int depth) {
        return perhaps(share) && !isFull() ? node(depth) : -1;
    }

    private int nodes(int depth, int count) {
        int all = node(depth);
        for (int i = 1; i < count && !isFull(); i++) {
            all = both(all, node(depth));
        }
        return all;
    }

    /** Out of methods 'r' ends the program, and out of blocks and loops the others raise. */
    private char leaving() {
        return perhaps(0.05) ? anyOf("bnr") : definitions == 0 ? anyOf("bn") : insides == 0 ? 'r' : anyOf("bnr");
    }

    private int someBlock(int depth) {
        insides++;
        int first = below(6);
        int body = nodes(perhaps(0.5) ? 1 : depth - 1, 1 + below(2));
        if (perhaps(0.35)) {
            body = both(body, leave(leaving(), leaf()));
        } else if (perhaps(0.2)) {
            body = both(body, perhaps(0.5) ? yields(-1, -1) : someSuper(0));
        }
        insides--;
        return block(below(3), first, (first + 1 + below(5)) % 6, body);
    }

    private int someCall(int receiver, int depth) {
        int message = someMessage();
        int count = argumentsOf(message);
        int first = count > 0 ? perhaps(0.6) ? leaf() : node(depth - 2) : -1;
        int second = count > 1 ? leaf() : -1;
        if (receiver >= 0 && perhaps(0.12)) {
            return safeCall(receiver, message, first, second);
        }
        return call(receiver, message, first, second, perhaps(message == 9 ? 0.9 : 0.25) && !isFull() ? someBlock(depth - 1) : -1);
    }

    private int someSuper(int depth) {
        if (perhaps(0.5)) {
            return superCall(true, -1, -1);
        }
        int first = optional(0.4, depth);
        return superCall(false, first, first >= 0 ? optional(0.3, depth) : -1);
    }

    private int someYield(int depth) {
        int first = optional(0.5, depth);
        return yields(first, first >= 0 ? optional(0.3, 1) : -1);
    }

    private int someDefinition(int depth) {
        definitions++;
        int outer = insides;
        insides = 0;
        int message = definedMessage();
        int needed = argumentsOf(message);
        int standard = perhaps(0.15) ? leaf() : -1;
        int body = nodes(depth - 1, 1 + below(3));
        if (message == 9 && perhaps(0.9)) {
            body = both(body, someYield(0));
        } else if (perhaps(0.35)) {
            body = both(body, someSuper(0));
        } else if (perhaps(0.2)) {
            body = both(body, leave('r', leaf()));
        } else if (perhaps(0.2)) {
            body = both(body, setConstant(10, proc(someBlock(1), perhaps(0.3))));
        }
        definitions--;
        insides = outer;
        return define(message, needed, standard, perhaps(0.5) ? both(print(number(100 + size())), body) : body);
    }

    /** A try that gets Errors and prints them, so that the program goes on. */
    private int tried(int node) {
        int local = 4 + below(2);
        return perhaps(0.97) ? attempt(node, -1, local, print(local(local)), -1, -1) : node;
    }

    private int body(int depth, boolean isModule) {
        int all = perhaps(0.2) ? number(0) : someDefinition(depth);
        int count = 1 + below(4);
        for (int i = 0; i < count && !isFull(); i++) {
            int part = partOfBody(depth, isModule);
            all = both(all, perhaps(0.8) ? tried(part) : part);
        }
        return all;
    }

    private int partOfBody(int depth, boolean isModule) {
        return switch (below(14)) {
            case 0 -> visibility(anyOf("uro"));
            case 1 -> hide(7, anyOf("uro"));
            case 2 -> alias(definedMessage(), 7);
            case 3 -> perhaps(0.5) ? undefine(any(7, 7, 8)) : mix('e', -1, constant(someModule()));
            case 4, 5 -> mix(anyOf("ip"), -1, constant(someModule()));
            case 6 -> isModule ? refine(constant(any(6, 7, 0, 1)), nodesOfRefinement(depth)) : node(depth);
            case 7 -> defineOn(plain('S'), any(7, 8, 9), 0, -1, nodes(depth - 1, 2));
            case 8 -> perhaps(0.2) ? define(any(3, 4, 5), 1, -1, node(depth - 1)) : define(0, 0, perhaps(0.3) ? leaf() : -1, node(depth - 1));
            case 9 -> perhaps(0.3) ? define(1, 2, -1, node(depth - 1)) : someDefinition(depth);
            default -> someDefinition(depth);
        };
    }

    private int nodesOfRefinement(int depth) {
        return both(someDefinition(depth), perhaps(0.4) ? someDefinition(depth) : leaf());
    }

    private int sum() {
        return call(perhaps(0.1) ? local(below(6)) : number(below(5)), 10 + below(3), perhaps(0.9) ? number(below(5)) : leaf(), -1, -1);
    }

    /** Counts a local up from what it is, or from nil once it raised, and tells whether it is below a number. */
    private int isBelow(int local, int bound) {
        return call(setLocal(local, call(perhaps(0.9) ? local(local) : number(0), 10, number(1), -1, -1)), 12, number(bound), -1, -1);
    }

    private int someAttempt(int depth) {
        int constant = perhaps(0.6) ? -1 : perhaps(0.6) ? 2 + below(4) : below(12);
        int handler = perhaps(0.2) ? choice(isBelow(1, 3), retry(), node(depth - 1)) : node(depth - 1);
        int body = perhaps(0.15) && insides > 0 ? leave(anyOf("bn"), -1) : node(depth - 1);
        return attempt(body, constant, 2 + below(4), handler, optional(0.3, depth - 1), optional(0.4, depth - 1));
    }

    private int node(int depth) {
        if (perhaps(0.03)) {
            setFile(below(3));
        }
        if (depth <= 0 || isFull()) {
            return leaf();
        }
        if (perhaps(0.2)) {
            return perhaps(0.5) ? call(-1, 9, -1, -1, someBlock(depth - 1)) : someCall(thing(depth - 1), depth);
        }
        return switch (below(4)) {
            case 0 -> setting(depth);
            case 1 -> calling(depth);
            case 2 -> flowing(depth);
            default -> defining(depth);
        };
    }

    private int setting(int depth) {
        return switch (below(8)) {
            case 0 -> definitions > 0 || perhaps(0.2) ? setField(below(3), node(depth - 1)) : print(node(depth - 1));
            case 1 -> setConstant(perhaps(0.3) ? someType() : 10 + below(2), node(depth - 1));
            case 2 -> orSet(definitions > 0 ? anyOf("lf") : 'l', below(6), node(depth - 1));
            case 3 -> orSet('c', perhaps(0.5) ? 10 + below(2) : below(12), node(depth - 1));
            case 4, 5 -> setLocal(perhaps(0.8) ? 2 + below(4) : below(6), node(depth - 1));
            default -> print(node(depth - 1));
        };
    }

    private int calling(int depth) {
        return switch (below(10)) {
            case 0, 1 -> someCall(thing(depth - 1), depth);
            case 2, 3 -> someCall(-1, depth);
            case 4 -> definitions > 0 || perhaps(0.1) ? someSuper(depth - 2) : fresh();
            case 5 -> proc(someBlock(depth), perhaps(0.5));
            case 6 -> call(perhaps(0.5) ? proc(someBlock(depth), perhaps(0.5)) : constant(10), 15, optional(0.5, 1), -1, -1);
            case 7 -> definitions > 0 || perhaps(0.1) ? someYield(depth - 2) : sum();
            case 8 -> sum();
            default -> print(call(local(4 + below(2)), perhaps(0.7) ? 16 : 13, -1, -1, -1));
        };
    }

    private int someLoop(int depth) {
        insides++;
        int condition = perhaps(0.7) ? isBelow(0, 4) : node(depth - 2);
        int body = nodes(depth - 1, 2);
        insides--;
        return loop(condition, body);
    }

    private int flowing(int depth) {
        return switch (below(12)) {
            case 0, 1 -> definitions + insides > 0 || perhaps(0.1) ? leave(leaving(), optional(0.6, 1)) : sum();
            case 2 -> both(node(depth - 1), node(depth - 1));
            case 3 -> choice(node(depth - 2), node(depth - 1), optional(0.6, depth - 1));
            case 4, 5 -> someLoop(depth);
            case 6 -> raises(perhaps(0.5) ? constant(2 + below(6)) : thing(depth - 1));
            case 7 -> catches(number(below(2)), nodes(depth - 1, 2));
            case 8 -> perhaps(0.3) ? throwsTo(number(below(2)), leaf()) : catches(number(0), both(node(depth - 2), throwsTo(number(0), leaf())));
            case 9 -> perhaps(0.2) ? retry() : sum();
            default -> someAttempt(depth);
        };
    }

    private int defining(int depth) {
        return switch (below(14)) {
            case 0 -> classNode(someClass(), perhaps(0.6) ? -1 : constant(someClass()), nodes(depth - 1, 1 + below(3)));
            case 1 -> moduleNode(someModule(), nodes(depth - 1, 1 + below(3)));
            case 2, 3 -> someDefinition(depth);
            case 4 -> defineOn(thing(1), definedMessage(), below(10) < 7 ? 0 : below(3), perhaps(0.1) ? leaf() : -1, nodes(depth - 1, 2));
            case 5 -> mix(anyOf("ip"), -1, constant(someModule()));
            case 6 -> mix('e', perhaps(0.7) ? thing(1) : -1, constant(someModule()));
            case 7 -> perhaps(0.5) ? alias(definedMessage(), definedMessage()) : undefine(definedMessage());
            case 8 -> perhaps(0.5) ? visibility(anyOf("uro")) : hide(definedMessage(), anyOf("uro"));
            case 9 -> perhaps(0.2) ? freeze(thing(1)) : sum();
            case 10 -> moduleNode(any(8, 9), refine(constant(someClass()), nodes(depth - 1, 2)));
            case 11 -> using(constant(someModule()));
            case 12 -> print(isA(thing(1), constant(someType())));
            default -> print(responds(thing(1), someMessage()));
        };
    }

    /** What random parts hardly ever come to by themselves. */
    private int rarity(int depth) {
        return switch (below(8)) {
            case 0 -> both(define(8, 0, -1, setConstant(10, proc(leavingBlock('r', depth), perhaps(0.3)))),
                    both(someCall(-1, 1), both(call(-1, 8, -1, -1, -1), call(constant(10), 15, -1, -1, -1))));
            case 1 -> loop(isBelow(0, 4), attempt(leave(anyOf("bn"), leaf()), -1, 3, leaf(), -1, print(node(depth - 1))));
            case 2 -> print(call(proc(leavingBlock(anyOf("bnr"), depth), true), 15, -1, -1, -1));
            case 3 -> classNode(any(6, 7), -1, define(7, 0, -1, call(-1, 9, -1, -1, block(0, 0, 0, someSuper(0)))));
            case 4 -> both(moduleNode(8, refine(constant(any(6, 7)), define(7, 0, -1, both(print(leaf()), someSuper(0))))),
                    both(using(constant(8)), print(call(fresh(), 7, -1, -1, -1))));
            case 5 -> both(classNode(6, -1, both(define(18, 1, -1, call(local(0), 7, -1, -1, -1)), hide(7, anyOf("ror")))), print(call(fresh(), 18, fresh(), -1, -1)));
            case 6 -> both(classNode(any(0, 6), -1, both(define(1, 2, -1, print(local(0))), undefine(7))), call(fresh(), 7, -1, -1, -1));
            default -> attempt(raises(constant(below(6))), -1, 2, choice(isBelow(3, 3), both(setLocal(3, local(3)), retry()), node(depth)), -1, optional(0.5, depth));
        };
    }

    private int leavingBlock(char kind, int depth) {
        return block(0, 0, 0, both(node(depth - 1), leave(kind, leaf())));
    }

    private int statement(int depth) {
        if (perhaps(0.15)) {
            return tried(rarity(depth));
        }
        int node = perhaps(0.6) ? someCall(perhaps(0.85) ? thing(depth) : -1, depth) : node(depth);
        return tried(perhaps(0.35) ? print(node) : node);
    }

    private int with(int all, double share, int depth, int which) {
        if (!perhaps(share) || isFull() && which != 20) {
            return all;
        }
        return both(all, tried(switch (which) {
            case 6 -> classNode(6, -1, body(depth, false));
            case 7 -> classNode(7, perhaps(0.7) ? constant(6) : -1, body(depth, false));
            case 8, 9 -> moduleNode(which, body(depth, true));
            case 18, 19 -> moduleNode(which - 10, refine(constant(any(6, 7, 0, 1)), someDefinition(3)));
            case 20, 21 -> setLocal(which - 20, fresh());
            case 28, 29 -> using(constant(which - 20));
            case 30 -> mix('e', local(below(2)), constant(any(8, 9)));
            case 31 -> defineOn(local(below(2)), any(7, 8, 9), 0, -1, nodes(2, 2));
            case 32 -> define(any(3, 4, 5), 1, -1, print(local(0)));
            default -> someDefinition(3);
        }));
    }

    /** Gives the node of a whole program. */
    int program() {
        most = 50 + below(50);
        int all = number(0);
        if (perhaps(0.75)) {
            int[] whiches = {32, 6, 8, 9, 7, 18, 19, 20, 21, 0, 0, 30, 31, 28, 29};
            double[] shares = {0.2, 0.97, 0.5, 0.4, 0.7, 0.4, 0.4, 0.9, 0.5, 0.3, 0.3, 0.3, 0.2, 0.4, 0.3};
            for (int i = 0; i < whiches.length; i++) {
                all = with(all, shares[i], 1 + below(2), whiches[i]);
            }
        }
        if (perhaps(0.6)) {
            all = both(all, define(9, 0, -1, both(perhaps(0.5) ? print(yields(-1, -1)) : yields(leaf(), -1), print(number(98)))));
        }
        most = 140 + below(60);
        int count = 4 + below(16);
        for (int i = 0; i < count && !isFull(); i++) {
            all = both(all, statement(2 + below(3)));
        }
        return all;
    }
}
