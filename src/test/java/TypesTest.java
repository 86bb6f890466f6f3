/** Promises 1 to 5, 13, 14 and 17: the types, their supertypes and their hosts. */
public final class TypesTest {
    private static final int REFUSED = MemberOracle.REFUSED;
    private static final int FULL = MemberOracle.FULL;
    private static final Due due = new Due("TypesTest");

    public static void main(String[] args) {
        newObject();
        objectsAreApart();
        tellClass();
        tellInterface();
        fullWorld();
        refusedBeforeFull();
        implement();
        implementIsFull();
        implementReachesTypesBelow();
        nest();
        isA();
        mates();
        type();
        due.end();
    }

    // Promise 1
    private static void newObject() {
        MemberOracle x = new MemberOracle();
        due.is("new: choices", x.choices(), 0);
        for (int what = 0; what <= 9; what++) {
            due.is("new: type(1, " + what + ")", x.type(1, what), REFUSED);
        }
        due.is("new: isA(1, 1)", x.isA(1, 1), false);
        due.is("new: isA(0, 0)", x.isA(0, 0), false);
        due.is("new: mates(1, 1)", x.mates(1, 1), false);
        due.is("new: mates(0, 0)", x.mates(0, 0), false);
        due.is("new: overrides", x.overrides(1, 1, 0), false);
        due.is("new: maximal", x.maximal(1, 0), REFUSED);
        due.is("new: resolve", x.resolve(0, 1, 1, 0), REFUSED);
        due.is("new: use", x.use(1, 1, 0, true), REFUSED);
        due.is("new: invoke", x.invoke(3, 1, 1, 0, 0), REFUSED);
        due.is("new: implement", x.implement(1, 1), REFUSED);
        due.is("new: nest", x.nest(1, 1), REFUSED);
        due.is("new: field", x.field(1, 0, 3, true), REFUSED);
        due.is("new: field of 0", x.field(0, 0, 3, true), REFUSED);
        due.is("new: method", x.method(1, 0, 3, 0), REFUSED);
        due.is("new: untell", x.untell(1, 0, 0), REFUSED);
        due.is("new: first number", x.tellClass(0, 0, true, false), 1);
        due.is("a new type has no field", x.untell(1, 0, 0), REFUSED);
        due.is("a new type has no method", x.untell(1, 1, 0), REFUSED);
    }

    private static void objectsAreApart() {
        MemberOracle x = new MemberOracle();
        MemberOracle y = new MemberOracle();
        due.is("x tells", x.tellClass(0, 2, true, false), 1);
        due.is("x tells", x.tellClass(1, 2, true, false), 2);
        due.is("y is still empty", y.type(1, 0), REFUSED);
        due.is("y tells", y.tellInterface(1, true), 1);
        due.is("x keeps its package", x.type(1, 1), 2);
        due.is("x keeps its kind", x.type(1, 9), 0);
    }

    // Promise 2
    private static void tellClass() {
        MemberOracle x = new MemberOracle();
        due.is("no such superclass", x.tellClass(1, 0, true, false), REFUSED);
        due.is("superclass -1", x.tellClass(-1, 0, true, false), REFUSED);
        due.is("package -1", x.tellClass(0, -1, true, false), REFUSED);
        due.is("package 3", x.tellClass(0, 3, true, false), REFUSED);
        due.is("first", x.tellClass(0, 0, true, false), 1);
        due.is("final one", x.tellClass(1, 2, false, true), 2);
        due.is("of a final one", x.tellClass(2, 0, true, false), REFUSED);
        due.is("interface", x.tellInterface(0, true), 3);
        due.is("of an interface", x.tellClass(3, 0, true, false), REFUSED);
        due.is("of itself to be", x.tellClass(4, 0, true, false), REFUSED);
        due.is("second of 1", x.tellClass(1, 1, true, false), 4);
        due.is("of 4", x.tellClass(4, 1, true, true), 5);
        due.is("superclass of 1", x.type(1, 0), 0);
        due.is("superclass of 2", x.type(2, 0), 1);
        due.is("superclass of 5", x.type(5, 0), 4);
        due.is("package of 2", x.type(2, 1), 2);
        due.is("no sixth", x.type(6, 0), REFUSED);
    }

    // Promise 3
    private static void tellInterface() {
        MemberOracle x = new MemberOracle();
        due.is("package -1", x.tellInterface(-1, true), REFUSED);
        due.is("package 3", x.tellInterface(3, true), REFUSED);
        for (int p = 0; p <= 2; p++) {
            due.is("package " + p, x.tellInterface(p, p == 1), p + 1);
            due.is("its package", x.type(p + 1, 1), p);
            due.is("its kind", x.type(p + 1, 9), 1);
            due.is("its superclass", x.type(p + 1, 0), 0);
            due.is("its host", x.type(p + 1, 2), p + 1);
        }
        // That 2 alone is public shows in who may refer to it.
        due.is("1 to itself", x.resolve(2, 1, 1, 0), MemberOracle.NO_METHOD);
        due.is("1 to public 2", x.resolve(2, 1, 2, 0), MemberOracle.NO_METHOD);
        due.is("1 to 3", x.resolve(2, 1, 3, 0), MemberOracle.ACCESS);
        due.is("2 to 1", x.resolve(2, 2, 1, 0), MemberOracle.ACCESS);
    }

    private static void fullWorld() {
        MemberOracle x = new MemberOracle();
        for (int n = 1; n <= 12; n++) {
            int got = n % 2 == 0 ? x.tellInterface(n % 3, true) : x.tellClass(0, n % 3, true, false);
            due.is("type " + n, got, n);
        }
        due.is("class 13", x.tellClass(1, 0, true, false), FULL);
        due.is("interface 13", x.tellInterface(0, true), FULL);
        due.is("no type 13", x.type(13, 0), REFUSED);
        due.is("type 12 as before", x.type(12, 9), 1);
    }

    private static void refusedBeforeFull() {
        MemberOracle x = new MemberOracle();
        for (int n = 1; n <= 12; n++) {
            x.tellInterface(0, true);
        }
        due.is("bad package in a full world", x.tellInterface(3, true), REFUSED);
        due.is("bad package in a full world", x.tellClass(0, 3, true, false), REFUSED);
        due.is("bad superclass in a full world", x.tellClass(1, 0, true, false), REFUSED);
        due.is("good class in a full world", x.tellClass(0, 0, true, false), FULL);
    }

    // Promise 4
    private static void implement() {
        MemberOracle x = new MemberOracle();
        x.tellInterface(0, true);
        x.tellClass(0, 0, true, false);
        x.tellInterface(1, false);
        x.tellClass(0, 0, true, true);
        due.is("interface of lesser number", x.implement(3, 1), 1);
        due.is("again", x.implement(3, 1), REFUSED);
        due.is("itself", x.implement(3, 3), REFUSED);
        due.is("greater number", x.implement(1, 3), REFUSED);
        due.is("a class", x.implement(4, 2), REFUSED);
        due.is("none", x.implement(4, 0), REFUSED);
        due.is("unknown other", x.implement(4, 5), REFUSED);
        due.is("unknown type", x.implement(5, 1), REFUSED);
        due.is("type 0", x.implement(0, 1), REFUSED);
        due.is("type -1", x.implement(-1, 1), REFUSED);
        due.is("count is as before", x.type(4, 3), 0);
        due.is("final class, other package", x.implement(4, 3), 1);
        due.is("indirect one may become direct", x.implement(4, 1), 2);
        due.is("order 0", x.type(4, 4), 3);
        due.is("order 1", x.type(4, 5), 1);
        due.is("supertypes counted once", x.type(4, 8), 2);
    }

    private static void implementIsFull() {
        MemberOracle x = new MemberOracle();
        for (int n = 1; n <= 5; n++) {
            x.tellInterface(0, true);
        }
        x.tellClass(0, 0, true, false);
        due.is("1", x.implement(6, 5), 1);
        due.is("2", x.implement(6, 2), 2);
        due.is("3", x.implement(6, 4), 3);
        due.is("4", x.implement(6, 1), 4);
        due.is("5", x.implement(6, 3), FULL);
        due.is("one that is there", x.implement(6, 4), REFUSED);
        due.is("isA what was not added", x.isA(6, 3), false);
        due.is("count", x.type(6, 3), 4);
        due.is("i 0", x.type(6, 4), 5);
        due.is("i 1", x.type(6, 5), 2);
        due.is("i 2", x.type(6, 6), 4);
        due.is("i 3", x.type(6, 7), 1);
    }

    private static void implementReachesTypesBelow() {
        MemberOracle x = new MemberOracle();
        x.tellInterface(0, true);
        x.tellInterface(0, true);
        x.tellClass(0, 0, true, false);
        x.tellClass(3, 0, true, false);
        x.tellClass(0, 0, true, false);
        due.is("class takes 2", x.implement(3, 2), 1);
        due.is("subclass IS A 2", x.isA(4, 2), true);
        due.is("not yet 1", x.isA(4, 1), false);
        due.is("2 takes 1", x.implement(2, 1), 1);
        due.is("subclass IS A 1", x.isA(4, 1), true);
        due.is("the class too", x.isA(3, 1), true);
        due.is("another is not", x.isA(5, 1), false);
        due.is("supertypes of 4", x.type(4, 8), 3);
        due.is("direct ones of 4", x.type(4, 3), 0);
    }

    // Promise 5
    private static void nest() {
        MemberOracle x = new MemberOracle();
        x.tellClass(0, 1, true, false);
        x.tellInterface(1, false);
        x.tellClass(0, 1, true, false);
        x.tellClass(0, 2, true, false);
        x.tellClass(0, 1, true, false);
        due.is("itself", x.nest(1, 1), 0);
        due.is("other package", x.nest(4, 1), REFUSED);
        due.is("greater number", x.nest(1, 2), REFUSED);
        due.is("unknown host", x.nest(5, 6), REFUSED);
        due.is("host 0", x.nest(5, 0), REFUSED);
        due.is("unknown type", x.nest(6, 1), REFUSED);
        due.is("type 0", x.nest(0, 0), REFUSED);
        due.is("lesser number", x.nest(3, 2), 0);
        due.is("host of 3", x.type(3, 2), 2);
        due.is("host that is nested", x.nest(5, 3), REFUSED);
        due.is("type that is a host", x.nest(2, 1), REFUSED);
        due.is("type that is a host, itself", x.nest(2, 2), REFUSED);
        due.is("another host", x.nest(3, 1), 0);
        due.is("host of 3", x.type(3, 2), 1);
        due.is("the same again", x.nest(3, 1), 0);
        due.is("back to itself", x.nest(3, 3), REFUSED);
        due.is("2 is no host any more", x.nest(2, 1), 0);
        due.is("host of 5 is itself", x.type(5, 2), 5);
    }

    // Promise 13
    private static void isA() {
        MemberOracle x = new MemberOracle();
        x.tellInterface(0, true);
        x.tellInterface(0, true);
        x.tellClass(0, 0, true, false);
        x.tellClass(3, 0, true, false);
        x.tellClass(4, 0, true, false);
        x.implement(2, 1);
        x.implement(3, 2);
        for (int t = 1; t <= 5; t++) {
            for (int o = 1; o <= 5; o++) {
                due.is("isA(" + t + ", " + o + ")", x.isA(t, o), o <= t);
            }
        }
        due.is("isA(0, 0)", x.isA(0, 0), false);
        due.is("isA(1, 0)", x.isA(1, 0), false);
        due.is("isA(0, 1)", x.isA(0, 1), false);
        due.is("isA(6, 6)", x.isA(6, 6), false);
        due.is("isA(5, 6)", x.isA(5, 6), false);
        due.is("isA(5, 33)", x.isA(5, 33), false);
        due.is("isA(-1, -1)", x.isA(-1, -1), false);
    }

    // Promise 14
    private static void mates() {
        MemberOracle x = new MemberOracle();
        for (int n = 1; n <= 4; n++) {
            x.tellClass(0, 0, true, false);
        }
        due.is("itself", x.mates(4, 4), true);
        due.is("before", x.mates(2, 3), false);
        x.nest(2, 1);
        x.nest(3, 1);
        due.is("two of one host", x.mates(2, 3), true);
        due.is("host and guest", x.mates(1, 3), true);
        due.is("guest and host", x.mates(3, 1), true);
        due.is("another", x.mates(3, 4), false);
        due.is("unknown", x.mates(5, 5), false);
        due.is("unknown and known", x.mates(5, 1), false);
        due.is("known and unknown", x.mates(1, 5), false);
        due.is("none", x.mates(0, 0), false);
        due.is("-1", x.mates(-1, -1), false);
    }

    // Promise 17
    private static void type() {
        MemberOracle x = new MemberOracle();
        x.tellInterface(2, true);
        x.tellInterface(0, true);
        x.tellClass(0, 1, true, false);
        x.tellClass(3, 1, true, false);
        x.implement(2, 1);
        x.implement(4, 2);
        x.nest(4, 3);
        int[] want = {3, 1, 3, 1, 2, 0, 0, 0, 3, 0};
        for (int what = 0; what <= 9; what++) {
            due.is("type(4, " + what + ")", x.type(4, what), want[what]);
        }
        int[] ofInterface = {0, 0, 2, 1, 1, 0, 0, 0, 1, 1};
        for (int what = 0; what <= 9; what++) {
            due.is("type(2, " + what + ")", x.type(2, what), ofInterface[what]);
        }
        due.is("what 10", x.type(4, 10), REFUSED);
        due.is("what -1", x.type(4, -1), REFUSED);
        due.is("type 0", x.type(0, 0), REFUSED);
        due.is("type 5", x.type(5, 0), REFUSED);
        due.is("type -1", x.type(-1, 0), REFUSED);
    }
}
