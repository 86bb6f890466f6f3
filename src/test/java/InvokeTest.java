/** Promise 12: invoke in its four kinds. */
public final class InvokeTest {
    private static final int REFUSED = MemberOracle.REFUSED;
    private static final int NO_METHOD = MemberOracle.NO_METHOD;
    private static final int ACCESS = MemberOracle.ACCESS;
    private static final int CHANGE = MemberOracle.CHANGE;
    private static final int ABSTRACT = MemberOracle.ABSTRACT;
    private static final int VIRTUAL = 0;
    private static final int INTERFACE = 1;
    private static final int SPECIAL = 2;
    private static final int STATIC = 3;
    private static final Due due = new Due("InvokeTest");

    public static void main(String[] args) {
        outOfRange();
        receivers();
        virtualSelects();
        virtualOfPrivate();
        virtualOfPackage();
        virtualByInterfaces();
        virtualErrorsInOrder();
        interfaceSelects();
        interfaceReceiver();
        interfaceAccess();
        interfaceOfAClassThatIsNotOne();
        specialFromBelow();
        specialOfItself();
        specialOfInterfaces();
        specialErrors();
        staticOnes();
        due.end();
    }

    private static void outOfRange() {
        MemberOracle x = new MemberOracle();
        x.tellClass(0, 0, true, false);
        x.method(1, 0, 3, 0);
        due.is("as it should be", x.invoke(VIRTUAL, 1, 1, 0, 1), 1);
        due.is("kind -1", x.invoke(-1, 1, 1, 0, 1), REFUSED);
        due.is("kind 4", x.invoke(4, 1, 1, 0, 1), REFUSED);
        due.is("kind 4, no receiver", x.invoke(4, 1, 1, 0, 0), REFUSED);
        for (int kind = VIRTUAL; kind <= STATIC; kind++) {
            int receiver = kind <= INTERFACE ? 1 : 0;
            due.is("type 0", x.invoke(kind, 0, 1, 0, receiver), REFUSED);
            due.is("type 2", x.invoke(kind, 2, 1, 0, receiver), REFUSED);
            due.is("from 0", x.invoke(kind, 1, 0, 0, receiver), REFUSED);
            due.is("from 2", x.invoke(kind, 1, 2, 0, receiver), REFUSED);
            due.is("name -1", x.invoke(kind, 1, 1, -1, receiver), REFUSED);
            due.is("name 4", x.invoke(kind, 1, 1, 4, receiver), REFUSED);
        }
        due.is("the choices are as before", x.choices(), 1);
    }

    private static void receivers() {
        MemberOracle x = new MemberOracle();
        x.tellInterface(0, true);
        x.tellClass(0, 0, true, false);
        x.tellClass(2, 0, true, false);
        x.method(1, 0, 3, 0);
        x.method(2, 0, 3, 0);
        x.method(2, 1, 3, 1);
        x.implement(3, 1);
        for (int kind = VIRTUAL; kind <= INTERFACE; kind++) {
            due.is("an interface as receiver", x.invoke(kind, 1, 1, 0, 1), REFUSED);
            due.is("receiver 0", x.invoke(kind, 2, 2, 0, 0), REFUSED);
            due.is("receiver 4", x.invoke(kind, 2, 2, 0, 4), REFUSED);
            due.is("receiver -1", x.invoke(kind, 2, 2, 0, -1), REFUSED);
        }
        due.is("virtual, R IS not A C", x.invoke(VIRTUAL, 3, 2, 0, 2), REFUSED);
        due.is("virtual, interface that R IS not", x.invoke(VIRTUAL, 1, 2, 0, 2), REFUSED);
        due.is("virtual, interface that R IS", x.invoke(VIRTUAL, 1, 2, 0, 3), CHANGE);
        due.is("special with a receiver", x.invoke(SPECIAL, 2, 2, 0, 2), REFUSED);
        due.is("special without", x.invoke(SPECIAL, 2, 2, 0, 0), 2);
        due.is("static with a receiver", x.invoke(STATIC, 2, 2, 1, 2), REFUSED);
        due.is("static with -1", x.invoke(STATIC, 2, 2, 1, -1), REFUSED);
        due.is("static without", x.invoke(STATIC, 2, 2, 1, 0), 2);
        due.is("special, C below D", x.invoke(SPECIAL, 3, 2, 0, 0), REFUSED);
        due.is("special, C no supertype", x.invoke(SPECIAL, 1, 2, 0, 0), REFUSED);
    }

    private static void virtualSelects() {
        MemberOracle x = new MemberOracle();
        x.tellClass(0, 0, true, false);
        x.tellClass(1, 1, true, false);
        x.tellClass(2, 2, true, false);
        x.method(1, 0, 3, 2);
        due.is("abstract", x.invoke(VIRTUAL, 1, 1, 0, 3), ABSTRACT);
        x.method(2, 0, 3, 0);
        due.is("for 1 abstract", x.invoke(VIRTUAL, 1, 1, 0, 1), ABSTRACT);
        due.is("for 2", x.invoke(VIRTUAL, 1, 1, 0, 2), 2);
        due.is("for 3", x.invoke(VIRTUAL, 1, 1, 0, 3), 2);
        x.method(3, 0, 1, 0);
        due.is("for 3 a narrower one", x.invoke(VIRTUAL, 1, 1, 0, 3), 3);
        x.method(3, 0, 0, 0);
        due.is("private ones do not override", x.invoke(VIRTUAL, 1, 1, 0, 3), 2);
        x.method(3, 0, 3, 1);
        due.is("static ones do not override", x.invoke(VIRTUAL, 1, 1, 0, 3), 2);
        due.is("resolved to the static one", x.invoke(VIRTUAL, 3, 1, 0, 3), CHANGE);
        x.method(3, 0, 3, 2);
        due.is("an abstract one overrides", x.invoke(VIRTUAL, 1, 1, 0, 3), ABSTRACT);
    }

    private static void virtualOfPrivate() {
        MemberOracle x = new MemberOracle();
        x.tellClass(0, 0, true, false);
        x.tellClass(1, 0, true, false);
        x.method(1, 0, 0, 0);
        x.method(2, 0, 3, 0);
        due.is("private: itself", x.invoke(VIRTUAL, 1, 1, 0, 2), 1);
        due.is("from another", x.invoke(VIRTUAL, 1, 2, 0, 2), ACCESS);
        x.nest(2, 1);
        due.is("from a nestmate", x.invoke(VIRTUAL, 1, 2, 0, 2), 1);
    }

    private static void virtualOfPackage() {
        MemberOracle x = new MemberOracle();
        x.tellClass(0, 0, true, false);
        x.tellClass(1, 1, true, false);
        x.tellClass(2, 0, true, false);
        x.tellClass(3, 1, true, false);
        x.method(1, 0, 1, 0);
        x.method(2, 0, 3, 0);
        x.method(4, 0, 3, 0);
        due.is("2 does not override", x.invoke(VIRTUAL, 1, 1, 0, 2), 1);
        due.is("nor does 4", x.invoke(VIRTUAL, 1, 1, 0, 4), 1);
        due.is("4 overrides 2", x.invoke(VIRTUAL, 2, 1, 0, 4), 4);
        x.method(3, 0, 2, 0);
        due.is("3 does", x.invoke(VIRTUAL, 1, 1, 0, 3), 3);
        due.is("and so does 4 by 3", x.invoke(VIRTUAL, 1, 1, 0, 4), 4);
    }

    private static void virtualByInterfaces() {
        MemberOracle x = new MemberOracle();
        x.tellInterface(0, true);
        x.tellInterface(0, true);
        x.tellClass(0, 0, true, false);
        x.tellClass(3, 0, true, false);
        x.implement(3, 1);
        x.method(1, 0, 3, 0);
        due.is("the one of 1", x.invoke(VIRTUAL, 3, 3, 0, 4), 1);
        x.implement(4, 2);
        x.method(2, 0, 3, 0);
        due.is("two for 4", x.invoke(VIRTUAL, 3, 3, 0, 4), CHANGE);
        due.is("one for 3", x.invoke(VIRTUAL, 3, 3, 0, 3), 1);
        x.method(2, 0, 3, 2);
        due.is("one of two is abstract", x.invoke(VIRTUAL, 3, 3, 0, 4), 1);
        x.method(1, 0, 3, 2);
        due.is("both are", x.invoke(VIRTUAL, 3, 3, 0, 4), ABSTRACT);
        x.method(3, 0, 0, 0);
        x.nest(4, 3);
        due.is("a private one is resolved first", x.invoke(VIRTUAL, 4, 3, 0, 4), 3);
        x.untell(3, 1, 0);
        x.method(4, 0, 2, 0);
        due.is("a class's own goes before", x.invoke(VIRTUAL, 3, 3, 0, 4), 4);
    }

    private static void virtualErrorsInOrder() {
        MemberOracle x = new MemberOracle();
        x.tellClass(0, 0, false, false);
        x.tellClass(0, 1, true, false);
        x.method(1, 0, 1, 1);
        due.is("type may not be used", x.invoke(VIRTUAL, 1, 2, 0, 1), ACCESS);
        due.is("choices 0", x.choices(), 0);
        x.method(2, 0, 1, 1);
        due.is("access before change", x.invoke(VIRTUAL, 2, 1, 0, 2), ACCESS);
        due.is("choices 1", x.choices(), 1);
        due.is("change", x.invoke(VIRTUAL, 2, 2, 0, 2), CHANGE);
        due.is("none", x.invoke(VIRTUAL, 2, 2, 1, 2), NO_METHOD);
    }

    private static void interfaceSelects() {
        MemberOracle x = new MemberOracle();
        x.tellInterface(0, true);
        x.tellInterface(0, true);
        x.tellClass(0, 1, true, false);
        x.tellClass(3, 1, true, false);
        x.implement(2, 1);
        x.implement(3, 2);
        x.method(1, 0, 3, 0);
        due.is("resolved above", x.invoke(INTERFACE, 2, 4, 0, 4), 1);
        x.method(2, 0, 3, 0);
        due.is("the maximal one", x.invoke(INTERFACE, 1, 4, 0, 4), 2);
        x.method(2, 0, 3, 2);
        due.is("an abstract one hides it", x.invoke(INTERFACE, 1, 4, 0, 4), ABSTRACT);
        x.method(3, 0, 3, 0);
        due.is("of the class", x.invoke(INTERFACE, 1, 4, 0, 4), 3);
        x.method(4, 0, 3, 1);
        due.is("static is passed by", x.invoke(INTERFACE, 1, 4, 0, 4), 3);
        x.method(4, 0, 0, 0);
        due.is("private is passed by", x.invoke(INTERFACE, 1, 4, 0, 4), 3);
        x.method(4, 0, 3, 2);
        due.is("abstract in the class", x.invoke(INTERFACE, 1, 4, 0, 4), ABSTRACT);
        due.is("C is a class", x.invoke(INTERFACE, 3, 4, 0, 4), CHANGE);
        x.method(1, 0, 3, 1);
        due.is("static", x.invoke(INTERFACE, 1, 4, 0, 4), CHANGE);
    }

    private static void interfaceReceiver() {
        MemberOracle x = new MemberOracle();
        x.tellInterface(0, true);
        x.tellInterface(0, true);
        x.tellClass(0, 0, true, false);
        x.implement(2, 1);
        x.implement(3, 1);
        x.method(1, 0, 3, 0);
        x.method(2, 1, 3, 0);
        due.is("R IS A the method's type, not C", x.invoke(INTERFACE, 2, 3, 0, 3), 1);
        due.is("R IS not A the method's type", x.invoke(INTERFACE, 2, 3, 1, 3), CHANGE);
        x.method(2, 1, 0, 0);
        due.is("access comes first", x.invoke(INTERFACE, 2, 3, 1, 3), ACCESS);
        x.implement(3, 2);
        due.is("a private one from itself", x.invoke(INTERFACE, 2, 2, 1, 3), 2);
        x.method(3, 1, 3, 0);
        due.is("is not overridden", x.invoke(INTERFACE, 2, 2, 1, 3), 2);
    }

    private static void interfaceAccess() {
        for (int access = 1; access <= 3; access++) {
            MemberOracle x = new MemberOracle();
            x.tellInterface(0, true);
            x.tellClass(0, 0, true, false);
            x.implement(2, 1);
            x.method(1, 0, 3, 2);
            x.method(2, 0, access, 0);
            due.is("access " + access, x.invoke(INTERFACE, 1, 2, 0, 2), access == 3 ? 2 : ACCESS);
            x.method(2, 0, access, 2);
            due.is("abstract, access " + access, x.invoke(INTERFACE, 1, 2, 0, 2), access == 3 ? ABSTRACT : ACCESS);
        }
    }

    /** CAN OVERRIDE asks that the class IS A the interface, so a method taken over from above does not count. */
    private static void interfaceOfAClassThatIsNotOne() {
        MemberOracle x = new MemberOracle();
        x.tellInterface(0, true);
        x.tellClass(0, 0, true, false);
        x.tellClass(2, 0, true, false);
        x.implement(3, 1);
        x.method(1, 0, 3, 0);
        x.method(2, 0, 3, 0);
        due.is("2 IS not A 1", x.invoke(INTERFACE, 1, 3, 0, 3), 1);
        x.method(1, 0, 3, 2);
        due.is("2 IS not A 1, abstract", x.invoke(INTERFACE, 1, 3, 0, 3), ABSTRACT);
        x.implement(2, 1);
        due.is("2 IS A 1", x.invoke(INTERFACE, 1, 3, 0, 3), 2);
    }

    private static void specialFromBelow() {
        MemberOracle x = new MemberOracle();
        x.tellClass(0, 0, true, false);
        x.tellClass(1, 0, true, false);
        x.tellClass(2, 0, true, false);
        x.method(1, 0, 3, 0);
        x.method(3, 0, 3, 0);
        due.is("the first above", x.invoke(SPECIAL, 1, 3, 0, 0), 1);
        x.method(2, 0, 3, 0);
        due.is("it starts at the superclass of D", x.invoke(SPECIAL, 1, 3, 0, 0), 2);
        x.method(2, 0, 3, 2);
        due.is("abstract there", x.invoke(SPECIAL, 1, 3, 0, 0), ABSTRACT);
        x.method(2, 0, 3, 1);
        due.is("static is passed by", x.invoke(SPECIAL, 1, 3, 0, 0), 1);
        due.is("but resolved it is CHANGE", x.invoke(SPECIAL, 2, 3, 0, 0), CHANGE);
        x.method(2, 0, 0, 0);
        due.is("private is not passed by", x.invoke(SPECIAL, 1, 3, 0, 0), 2);
    }

    private static void specialOfItself() {
        MemberOracle x = new MemberOracle();
        x.tellInterface(0, true);
        x.tellClass(0, 0, true, false);
        x.tellClass(2, 0, true, false);
        x.implement(2, 1);
        x.method(2, 0, 3, 0);
        due.is("S = C", x.invoke(SPECIAL, 3, 3, 0, 0), 2);
        x.method(3, 0, 0, 0);
        due.is("its own private one", x.invoke(SPECIAL, 3, 3, 0, 0), 3);
        x.method(1, 1, 3, 0);
        due.is("by interfaces", x.invoke(SPECIAL, 3, 3, 1, 0), 1);
        due.is("by interfaces, from below", x.invoke(SPECIAL, 2, 3, 1, 0), 1);
    }

    private static void specialOfInterfaces() {
        MemberOracle x = new MemberOracle();
        for (int n = 1; n <= 3; n++) {
            x.tellInterface(0, true);
        }
        x.tellClass(0, 0, true, false);
        x.implement(3, 1);
        x.implement(3, 2);
        x.implement(4, 3);
        x.method(1, 0, 3, 0);
        due.is("the one above", x.invoke(SPECIAL, 3, 4, 0, 0), 1);
        x.method(2, 0, 3, 0);
        due.is("several", x.invoke(SPECIAL, 3, 4, 0, 0), CHANGE);
        due.is("they were choices", x.choices(), 2);
        x.method(1, 0, 3, 2);
        due.is("one of two", x.invoke(SPECIAL, 3, 4, 0, 0), 2);
        x.method(2, 0, 3, 2);
        due.is("none", x.invoke(SPECIAL, 3, 4, 0, 0), ABSTRACT);
        x.method(3, 0, 3, 0);
        due.is("its own", x.invoke(SPECIAL, 3, 4, 0, 0), 3);
        due.is("a class's own is not looked at", x.method(4, 0, 3, 0), 0);
        due.is("its own", x.invoke(SPECIAL, 3, 4, 0, 0), 3);
        due.is("from an interface", x.invoke(SPECIAL, 1, 3, 0, 0), ABSTRACT);
        due.is("from itself", x.invoke(SPECIAL, 3, 3, 0, 0), 3);
        x.method(3, 0, 3, 2);
        due.is("its own is abstract", x.invoke(SPECIAL, 3, 4, 0, 0), ABSTRACT);
        x.method(3, 0, 0, 0);
        due.is("its own is private", x.invoke(SPECIAL, 3, 4, 0, 0), ACCESS);
        due.is("private from itself", x.invoke(SPECIAL, 3, 3, 0, 0), 3);
    }

    private static void specialErrors() {
        MemberOracle x = new MemberOracle();
        x.tellClass(0, 0, false, false);
        x.tellClass(1, 1, true, false);
        x.method(1, 0, 3, 0);
        due.is("type may not be used", x.invoke(SPECIAL, 1, 2, 0, 0), ACCESS);
        due.is("its own may", x.invoke(SPECIAL, 2, 2, 0, 0), 1);
        due.is("none", x.invoke(SPECIAL, 2, 2, 1, 0), NO_METHOD);
        x.method(1, 0, 1, 1);
        due.is("access before change", x.invoke(SPECIAL, 2, 2, 0, 0), ACCESS);
        due.is("static", x.invoke(SPECIAL, 1, 1, 0, 0), CHANGE);
    }

    private static void staticOnes() {
        MemberOracle x = new MemberOracle();
        x.tellInterface(0, true);
        x.tellClass(0, 0, true, false);
        x.tellClass(2, 1, true, false);
        x.tellClass(0, 2, true, false);
        x.implement(2, 1);
        x.method(1, 0, 3, 1);
        x.method(2, 1, 2, 1);
        due.is("of an interface", x.invoke(STATIC, 1, 4, 0, 0), 1);
        due.is("is not inherited from it", x.invoke(STATIC, 2, 4, 0, 0), NO_METHOD);
        due.is("of a superclass", x.invoke(STATIC, 3, 3, 1, 0), 2);
        due.is("protected, from afar", x.invoke(STATIC, 3, 4, 1, 0), ACCESS);
        x.method(3, 1, 3, 0);
        due.is("not static", x.invoke(STATIC, 3, 4, 1, 0), CHANGE);
        x.method(3, 1, 3, 2);
        due.is("abstract", x.invoke(STATIC, 3, 4, 1, 0), CHANGE);
        x.method(1, 0, 3, 2);
        due.is("inherited, not static", x.invoke(STATIC, 2, 4, 0, 0), CHANGE);
    }
}
