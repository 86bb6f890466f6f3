/** Promises 15 and 16: which method can override which, and the MAXIMAL methods. */
public final class OverrideTest {
    private static final int REFUSED = MemberOracle.REFUSED;
    private static final Due due = new Due("OverrideTest");

    public static void main(String[] args) {
        byAccess();
        byPackage();
        overAClassBetween();
        overPrivateOrStaticBetween();
        overSeveralClassesBetween();
        ofInterfaces();
        ofOthers();
        maximal();
        maximalOfADiamond();
        due.end();
    }

    /** Whether a method of access m in a class below can override one of access r, in the same package or not. */
    private static void byAccess() {
        for (int m = 0; m <= 3; m++) {
            for (int r = 0; r <= 3; r++) {
                for (int p = 0; p <= 1; p++) {
                    MemberOracle x = new MemberOracle();
                    x.tellClass(0, 0, true, false);
                    x.tellClass(1, p, true, false);
                    x.method(1, 0, r, 0);
                    x.method(2, 0, m, 0);
                    boolean want = m != 0 && (r >= 2 || r == 1 && p == 0);
                    due.is("access " + m + " over " + r + " in package " + p, x.overrides(2, 1, 0), want);
                    due.is("not the other way", x.overrides(1, 2, 0), false);
                    due.is("itself, access " + m, x.overrides(2, 2, 0), true);
                }
            }
        }
    }

    private static void byPackage() {
        MemberOracle x = new MemberOracle();
        x.tellClass(0, 0, true, false);
        x.tellClass(1, 1, true, false);
        x.tellClass(2, 0, true, false);
        x.method(1, 0, 1, 0);
        x.method(3, 0, 1, 2);
        due.is("same package, behind one of another", x.overrides(3, 1, 0), true);
        x.method(2, 0, 3, 0);
        due.is("another package", x.overrides(2, 1, 0), false);
        due.is("public in another package", x.overrides(3, 2, 0), true);
    }

    private static void overAClassBetween() {
        MemberOracle x = new MemberOracle();
        x.tellClass(0, 0, true, false);
        x.tellClass(1, 0, true, false);
        x.tellClass(2, 1, true, false);
        x.method(1, 0, 1, 0);
        x.method(3, 0, 3, 0);
        due.is("no method between", x.overrides(3, 1, 0), false);
        x.method(2, 0, 3, 0);
        due.is("public between", x.overrides(3, 1, 0), true);
        x.method(2, 0, 2, 2);
        due.is("protected and abstract between", x.overrides(3, 1, 0), true);
        x.method(2, 0, 1, 0);
        due.is("package between", x.overrides(3, 1, 0), false);
        x.method(2, 1, 3, 0);
        due.is("another name between", x.overrides(3, 1, 0), false);
        x.method(2, 0, 3, 0);
        x.method(3, 0, 0, 0);
        due.is("private over all", x.overrides(3, 1, 0), false);
    }

    private static void overPrivateOrStaticBetween() {
        MemberOracle x = new MemberOracle();
        x.tellClass(0, 0, true, false);
        x.tellClass(1, 0, true, false);
        x.tellClass(2, 1, true, false);
        x.method(1, 0, 1, 0);
        x.method(3, 0, 3, 0);
        x.method(2, 0, 3, 1);
        due.is("static between", x.overrides(3, 1, 0), false);
        x.method(2, 0, 0, 0);
        due.is("private between", x.overrides(3, 1, 0), false);
    }

    /** The packages go 0, 0, 1, 1, 2: each step is one of its own. */
    private static void overSeveralClassesBetween() {
        MemberOracle x = new MemberOracle();
        x.tellClass(0, 0, true, false);
        x.tellClass(1, 0, true, false);
        x.tellClass(2, 1, true, false);
        x.tellClass(3, 1, true, false);
        x.tellClass(4, 2, true, false);
        x.method(1, 0, 1, 0);
        x.method(2, 0, 2, 0);
        x.method(3, 0, 1, 0);
        x.method(4, 0, 3, 0);
        x.method(5, 0, 1, 0);
        due.is("2 over 1", x.overrides(2, 1, 0), true);
        due.is("3 over 1, by 2", x.overrides(3, 1, 0), true);
        due.is("4 over 1, by 2", x.overrides(4, 1, 0), true);
        due.is("5 over 1", x.overrides(5, 1, 0), true);
        due.is("5 over 3, by 4", x.overrides(5, 3, 0), true);
        x.method(2, 0, 1, 0);
        due.is("3 over 1, 2 of the package", x.overrides(3, 1, 0), false);
        due.is("5 over 1, 2 of the package", x.overrides(5, 1, 0), false);
        due.is("5 over 3", x.overrides(5, 3, 0), true);
        x.method(4, 0, 1, 0);
        due.is("5 over 3, 4 of the package", x.overrides(5, 3, 0), false);
    }

    private static void ofInterfaces() {
        MemberOracle x = new MemberOracle();
        x.tellInterface(0, true);
        x.tellInterface(1, true);
        x.tellClass(0, 2, true, false);
        x.tellClass(3, 2, true, false);
        x.implement(2, 1);
        x.implement(4, 2);
        x.method(1, 0, 3, 2);
        x.method(2, 0, 0, 0);
        x.method(3, 0, 3, 0);
        x.method(4, 0, 1, 0);
        due.is("public of an interface", x.overrides(4, 1, 0), true);
        due.is("private of an interface", x.overrides(4, 2, 0), false);
        due.is("class that IS not A 1", x.overrides(3, 1, 0), false);
        due.is("an interface is no class", x.overrides(2, 1, 0), false);
        due.is("an interface, itself", x.overrides(1, 1, 0), false);
        x.method(1, 0, 3, 1);
        due.is("static of an interface", x.overrides(4, 1, 0), false);
    }

    private static void ofOthers() {
        MemberOracle x = new MemberOracle();
        x.tellClass(0, 0, true, false);
        x.tellClass(1, 0, true, false);
        x.tellClass(1, 0, true, false);
        x.method(1, 0, 3, 0);
        due.is("its own is not there", x.overrides(2, 1, 0), false);
        x.method(2, 0, 3, 0);
        x.method(3, 0, 3, 0);
        due.is("both there", x.overrides(2, 1, 0), true);
        due.is("beside it", x.overrides(3, 2, 0), false);
        due.is("another name", x.overrides(2, 1, 1), false);
        due.is("name 4", x.overrides(2, 1, 4), false);
        due.is("name -1", x.overrides(2, 1, -1), false);
        due.is("type 0", x.overrides(0, 1, 0), false);
        due.is("type 4", x.overrides(4, 1, 0), false);
        due.is("other 0", x.overrides(2, 0, 0), false);
        due.is("other 4", x.overrides(2, 4, 0), false);
        x.method(2, 0, 3, 1);
        due.is("static", x.overrides(2, 1, 0), false);
        due.is("static, itself", x.overrides(2, 2, 0), false);
        x.untell(1, 1, 0);
        due.is("the other's is not there", x.overrides(3, 1, 0), false);
    }

    // Promise 16
    private static void maximal() {
        MemberOracle x = new MemberOracle();
        x.tellInterface(0, true);
        x.tellInterface(0, true);
        x.tellClass(0, 0, true, false);
        x.tellClass(3, 0, true, false);
        x.implement(3, 1);
        x.implement(4, 2);
        due.is("none", x.maximal(4, 0), 0);
        x.method(1, 0, 3, 2);
        x.method(3, 0, 3, 0);
        due.is("of the superclass's interface", x.maximal(4, 0), 2);
        x.method(2, 0, 3, 0);
        due.is("both", x.maximal(4, 0), 6);
        due.is("its own interface alone", x.maximal(3, 0), 2);
        due.is("an interface's own is not counted", x.maximal(1, 0), 0);
        due.is("another name", x.maximal(4, 1), 0);
        x.method(2, 0, 3, 1);
        due.is("static", x.maximal(4, 0), 2);
        x.method(1, 0, 0, 0);
        due.is("private", x.maximal(4, 0), 0);
        due.is("type 0", x.maximal(0, 0), REFUSED);
        due.is("type 5", x.maximal(5, 0), REFUSED);
        due.is("name -1", x.maximal(4, -1), REFUSED);
        due.is("name 4", x.maximal(4, 4), REFUSED);
    }

    private static void maximalOfADiamond() {
        MemberOracle x = new MemberOracle();
        for (int n = 1; n <= 4; n++) {
            x.tellInterface(0, true);
        }
        x.tellClass(0, 0, true, false);
        x.implement(2, 1);
        x.implement(3, 2);
        x.implement(4, 1);
        x.implement(5, 3);
        x.implement(5, 1);
        x.method(1, 0, 3, 0);
        due.is("top alone", x.maximal(5, 0), 2);
        x.method(3, 0, 3, 2);
        due.is("an abstract one hides it, past one without", x.maximal(5, 0), 8);
        due.is("not for what IS not A 3", x.maximal(3, 0), 2);
        x.method(4, 0, 3, 0);
        due.is("one outside does not count", x.maximal(5, 0), 8);
        x.method(3, 0, 3, 1);
        due.is("a static one hides nothing", x.maximal(5, 0), 2);
        x.method(3, 0, 0, 0);
        due.is("a private one hides nothing", x.maximal(5, 0), 2);
        x.method(2, 0, 3, 0);
        due.is("the middle one", x.maximal(5, 0), 4);
        x.implement(5, 4);
        due.is("two sides", x.maximal(5, 0), 20);
    }
}
