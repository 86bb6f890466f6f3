/** Promises 9, 10 and 11: what a reference resolves to, the choices, and the use of fields. */
public final class ResolveTest {
    private static final int REFUSED = MemberOracle.REFUSED;
    private static final int NO_FIELD = MemberOracle.NO_FIELD;
    private static final int NO_METHOD = MemberOracle.NO_METHOD;
    private static final int ACCESS = MemberOracle.ACCESS;
    private static final int CHANGE = MemberOracle.CHANGE;
    private static final Due due = new Due("ResolveTest");

    public static void main(String[] args) {
        outOfRange();
        typeThatMayNotBeUsed();
        accessBeforeChange();
        fieldSearchOrder();
        fieldSearchGoesDeepFirst();
        hiddenPrivateField();
        methodOfTheChain();
        methodOfInterfaces();
        interfaceMethod();
        privateAndStaticOfInterfacesAreNotInherited();
        protectedFromBelow();
        nestmates();
        choicesAreKept();
        use();
        due.end();
    }

    private static void resolves(MemberOracle x, int[] call, int want, int choices) {
        String text = "resolve(" + call[0] + ", " + call[1] + ", " + call[2] + ", " + call[3] + ")";
        due.is(text, x.resolve(call[0], call[1], call[2], call[3]), want);
        due.is("choices of " + text, x.choices(), choices);
    }

    private static int[] call(int kind, int from, int type, int name) {
        return new int[] {kind, from, type, name};
    }

    private static void outOfRange() {
        MemberOracle x = new MemberOracle();
        x.tellClass(0, 0, true, false);
        x.method(1, 0, 3, 0);
        resolves(x, call(1, 1, 1, 0), 1, 1);
        int[][] calls = {call(-1, 1, 1, 0), call(3, 1, 1, 0), call(1, 0, 1, 0), call(1, 2, 1, 0), call(1, -1, 1, 0),
            call(1, 1, 0, 0), call(1, 1, 2, 0), call(1, 1, -1, 0), call(1, 1, 1, -1), call(1, 1, 1, 4)};
        for (int[] bad : calls) {
            resolves(x, bad, REFUSED, 1);
        }
        resolves(x, call(0, 1, 1, 0), NO_FIELD, 0);
        for (int[] bad : calls) {
            resolves(x, bad, REFUSED, 0);
        }
    }

    private static void typeThatMayNotBeUsed() {
        MemberOracle x = new MemberOracle();
        x.tellClass(0, 0, false, false);
        x.tellClass(1, 1, true, false);
        x.tellClass(0, 0, true, false);
        x.field(1, 0, 3, true);
        x.method(1, 0, 3, 0);
        resolves(x, call(0, 3, 1, 0), 1, 1);
        resolves(x, call(0, 2, 1, 0), ACCESS, 0);
        resolves(x, call(1, 2, 1, 0), ACCESS, 0);
        // Only the type that the reference names is looked at, not the one in which the member is.
        resolves(x, call(0, 2, 2, 0), 1, 1);
        resolves(x, call(1, 2, 2, 0), 1, 1);
        resolves(x, call(0, 2, 1, 3), ACCESS, 0);
    }

    private static void accessBeforeChange() {
        MemberOracle x = new MemberOracle();
        x.tellInterface(0, false);
        x.tellClass(0, 0, false, false);
        x.tellClass(0, 1, true, false);
        resolves(x, call(1, 3, 1, 0), ACCESS, 0);
        resolves(x, call(2, 3, 2, 0), ACCESS, 0);
        resolves(x, call(1, 2, 1, 0), CHANGE, 0);
        resolves(x, call(2, 1, 2, 0), CHANGE, 0);
        resolves(x, call(2, 1, 1, 0), NO_METHOD, 0);
        resolves(x, call(1, 1, 2, 0), NO_METHOD, 0);
        resolves(x, call(0, 2, 1, 0), NO_FIELD, 0);
    }

    private static void fieldSearchOrder() {
        MemberOracle x = new MemberOracle();
        x.tellInterface(0, true);
        x.tellInterface(0, true);
        x.tellClass(0, 0, true, false);
        x.tellClass(3, 0, true, false);
        x.implement(4, 2);
        x.implement(4, 1);
        x.field(1, 0, 3, true);
        x.field(2, 0, 3, true);
        x.field(3, 0, 3, true);
        x.field(4, 0, 3, true);
        resolves(x, call(0, 4, 4, 0), 4, 1);
        x.untell(4, 0, 0);
        resolves(x, call(0, 4, 4, 0), 2, 1);
        x.untell(2, 0, 0);
        resolves(x, call(0, 4, 4, 0), 1, 1);
        x.untell(1, 0, 0);
        resolves(x, call(0, 4, 4, 0), 3, 1);
        x.untell(3, 0, 0);
        resolves(x, call(0, 4, 4, 0), NO_FIELD, 0);
    }

    private static void fieldSearchGoesDeepFirst() {
        MemberOracle x = new MemberOracle();
        for (int n = 1; n <= 4; n++) {
            x.tellInterface(0, true);
        }
        x.tellClass(0, 0, true, false);
        x.tellClass(5, 0, true, false);
        x.implement(3, 1);
        x.implement(5, 4);
        x.implement(6, 3);
        x.implement(6, 2);
        x.field(2, 0, 3, true);
        x.field(1, 0, 3, true);
        resolves(x, call(0, 6, 6, 0), 1, 1);
        x.untell(1, 0, 0);
        resolves(x, call(0, 6, 6, 0), 2, 1);
        x.untell(2, 0, 0);
        x.field(4, 0, 3, true);
        resolves(x, call(0, 6, 6, 0), 4, 1);
        x.field(5, 0, 3, false);
        resolves(x, call(0, 6, 6, 0), 5, 1);
        resolves(x, call(0, 6, 3, 0), NO_FIELD, 0);
        resolves(x, call(0, 6, 4, 0), 4, 1);
    }

    private static void hiddenPrivateField() {
        MemberOracle x = new MemberOracle();
        x.tellClass(0, 0, true, false);
        x.tellClass(1, 0, true, false);
        x.tellClass(2, 0, true, false);
        x.field(1, 0, 3, true);
        x.field(2, 0, 0, true);
        resolves(x, call(0, 3, 3, 0), ACCESS, 1);
        resolves(x, call(0, 2, 3, 0), 2, 1);
        resolves(x, call(0, 3, 1, 0), 1, 1);
    }

    private static void methodOfTheChain() {
        MemberOracle x = new MemberOracle();
        x.tellInterface(0, true);
        x.tellClass(0, 0, true, false);
        x.tellClass(2, 0, true, false);
        x.tellClass(3, 0, true, false);
        x.implement(4, 1);
        x.method(1, 0, 3, 0);
        x.method(2, 0, 3, 2);
        resolves(x, call(1, 4, 4, 0), 2, 1);
        x.method(3, 0, 0, 1);
        resolves(x, call(1, 4, 4, 0), ACCESS, 1);
        resolves(x, call(1, 3, 4, 0), 3, 1);
        x.untell(3, 1, 0);
        x.untell(2, 1, 0);
        resolves(x, call(1, 4, 4, 0), 1, 1);
        resolves(x, call(1, 4, 3, 0), NO_METHOD, 0);
    }

    private static void methodOfInterfaces() {
        MemberOracle x = new MemberOracle();
        for (int n = 1; n <= 4; n++) {
            x.tellInterface(0, true);
        }
        x.tellClass(0, 0, true, false);
        x.tellClass(5, 1, true, false);
        x.implement(4, 2);
        x.implement(5, 4);
        x.implement(5, 3);
        x.method(2, 0, 3, 0);
        resolves(x, call(1, 6, 6, 0), 2, 1);
        x.method(4, 0, 3, 2);
        resolves(x, call(1, 6, 6, 0), 2, 2);
        x.method(3, 0, 3, 0);
        resolves(x, call(1, 6, 6, 0), 3, 1);
        x.method(4, 0, 3, 0);
        resolves(x, call(1, 6, 6, 0), 2, 3);
        x.untell(2, 1, 0);
        resolves(x, call(1, 6, 6, 0), 3, 2);
        x.method(3, 0, 3, 2);
        resolves(x, call(1, 6, 6, 0), 4, 1);
        x.method(4, 0, 3, 2);
        x.untell(3, 1, 0);
        resolves(x, call(1, 6, 6, 0), 4, 1);
        x.untell(4, 1, 0);
        resolves(x, call(1, 6, 6, 0), NO_METHOD, 0);
    }

    private static void interfaceMethod() {
        MemberOracle x = new MemberOracle();
        x.tellInterface(0, true);
        x.tellInterface(0, true);
        x.tellInterface(0, true);
        x.tellClass(0, 1, true, false);
        x.implement(3, 2);
        x.implement(3, 1);
        x.method(1, 0, 3, 2);
        x.method(2, 0, 3, 2);
        resolves(x, call(2, 4, 3, 0), 1, 2);
        x.method(2, 0, 3, 0);
        resolves(x, call(2, 4, 3, 0), 2, 1);
        x.method(3, 0, 0, 1);
        resolves(x, call(2, 4, 3, 0), ACCESS, 1);
        resolves(x, call(2, 3, 3, 0), 3, 1);
        x.method(3, 0, 3, 2);
        resolves(x, call(2, 4, 3, 0), 3, 1);
        resolves(x, call(1, 4, 3, 0), CHANGE, 0);
        resolves(x, call(2, 4, 4, 0), CHANGE, 0);
    }

    private static void privateAndStaticOfInterfacesAreNotInherited() {
        MemberOracle x = new MemberOracle();
        x.tellInterface(0, true);
        x.tellInterface(0, true);
        x.tellClass(0, 0, true, false);
        x.implement(2, 1);
        x.implement(3, 2);
        x.method(2, 0, 3, 1);
        resolves(x, call(1, 3, 3, 0), NO_METHOD, 0);
        x.method(2, 0, 0, 0);
        resolves(x, call(1, 3, 3, 0), NO_METHOD, 0);
        x.method(1, 0, 3, 2);
        resolves(x, call(1, 3, 3, 0), 1, 1);
        due.is("maximal passes the private one by", x.maximal(3, 0), 2);
        x.method(1, 0, 0, 1);
        resolves(x, call(2, 2, 2, 0), 2, 1);
        x.untell(2, 1, 0);
        resolves(x, call(2, 2, 2, 0), NO_METHOD, 0);
    }

    private static void protectedFromBelow() {
        MemberOracle x = new MemberOracle();
        x.tellClass(0, 0, true, false);
        x.tellClass(1, 1, true, false);
        x.tellClass(2, 2, true, false);
        x.tellClass(0, 1, true, false);
        x.method(2, 0, 2, 0);
        resolves(x, call(1, 3, 3, 0), 2, 1);
        resolves(x, call(1, 4, 3, 0), 2, 1);
        resolves(x, call(1, 1, 3, 0), ACCESS, 1);
        resolves(x, call(1, 2, 3, 0), 2, 1);
    }

    private static void nestmates() {
        MemberOracle x = new MemberOracle();
        x.tellInterface(0, true);
        x.tellClass(0, 0, true, false);
        x.tellClass(0, 0, true, false);
        x.method(1, 0, 0, 0);
        x.method(2, 0, 0, 0);
        x.field(2, 1, 0, false);
        resolves(x, call(1, 3, 2, 0), ACCESS, 1);
        x.nest(2, 1);
        x.nest(3, 1);
        resolves(x, call(1, 3, 2, 0), 2, 1);
        resolves(x, call(0, 3, 2, 1), 2, 1);
        resolves(x, call(2, 3, 1, 0), 1, 1);
    }

    // Promise 10
    private static void choicesAreKept() {
        MemberOracle x = new MemberOracle();
        x.tellInterface(0, true);
        x.tellInterface(0, true);
        x.tellClass(0, 0, true, false);
        x.implement(3, 1);
        x.implement(3, 2);
        x.method(1, 0, 3, 2);
        x.method(2, 0, 3, 2);
        x.method(3, 1, 3, 1);
        due.is("before the first", x.choices(), 0);
        resolves(x, call(1, 3, 3, 0), 1, 2);
        due.is("use of no field", x.use(3, 3, 0, true), NO_FIELD);
        due.is("use leaves the choices", x.choices(), 2);
        x.field(3, 0, 3, true);
        due.is("use of a field", x.use(3, 3, 0, true), 3);
        due.is("use leaves the choices", x.choices(), 2);
        x.untell(2, 1, 0);
        due.is("telling leaves the choices", x.choices(), 2);
        due.is("refused invoke", x.invoke(0, 3, 3, 0, 0), REFUSED);
        due.is("refused leaves the choices", x.choices(), 2);
        due.is("invoke of what was not found", x.invoke(0, 3, 3, 3, 3), NO_METHOD);
        due.is("choices 0", x.choices(), 0);
        x.method(2, 0, 3, 2);
        due.is("invoke by any", x.invoke(0, 3, 3, 0, 3), MemberOracle.ABSTRACT);
        due.is("choices of the invoke", x.choices(), 2);
        due.is("invoke of a static one", x.invoke(0, 3, 3, 1, 3), CHANGE);
        due.is("it was resolved, so 1", x.choices(), 1);
        due.is("invoke static", x.invoke(3, 3, 3, 1, 0), 3);
        due.is("choices 1", x.choices(), 1);
        due.is("invoke interface of a class", x.invoke(1, 3, 3, 0, 3), CHANGE);
        due.is("it was not resolved, so 0", x.choices(), 0);
    }

    // Promise 11
    private static void use() {
        MemberOracle x = new MemberOracle();
        x.tellInterface(0, false);
        x.tellClass(0, 0, true, false);
        x.tellClass(2, 1, true, false);
        x.implement(2, 1);
        x.field(1, 0, 3, true);
        x.field(2, 1, 1, false);
        due.is("static as static", x.use(3, 3, 0, true), 1);
        due.is("static as not", x.use(3, 3, 0, false), CHANGE);
        due.is("type may not be used", x.use(3, 1, 0, true), ACCESS);
        due.is("not static as not", x.use(1, 3, 1, false), 2);
        due.is("not static as static", x.use(1, 3, 1, true), CHANGE);
        due.is("access goes before change", x.use(3, 3, 1, true), ACCESS);
        due.is("nothing found", x.use(3, 3, 2, true), NO_FIELD);
        due.is("nothing found", x.use(3, 3, 2, false), NO_FIELD);
        due.is("from 0", x.use(0, 3, 0, true), REFUSED);
        due.is("from 4", x.use(4, 3, 0, true), REFUSED);
        due.is("type 0", x.use(3, 0, 0, true), REFUSED);
        due.is("type 4", x.use(3, 4, 0, true), REFUSED);
        due.is("name -1", x.use(3, 3, -1, true), REFUSED);
        due.is("name 4", x.use(3, 3, 4, true), REFUSED);
        due.is("choices stay 0", x.choices(), 0);
    }
}
