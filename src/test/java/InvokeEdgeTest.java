/** Promise 12, sentence by sentence: just inside the boundary, just outside it, and far outside. */
public final class InvokeEdgeTest {
    private static final Runs runs = new Runs("InvokeEdgeTest");

    public static void main(String[] args) {
        for (int kind = 0; kind <= 3; kind++) {
            numbers(kind);
        }
        kinds();
        receiverIsNoClass();
        receiverIsNotOfC();
        receiverIsNotZero();
        specialOutside();
        virtualInOrder();
        selectPrivate();
        selectOfTheChain();
        selectMaximal();
        interfaceInOrder();
        interfaceReceiver();
        specialFromTheSuperclass();
        specialFromC();
        specialMaximal();
        staticInOrder();
        runs.end();
    }

    /** A class 3 of the interface 2, with a method 0 that each kind may be asked for; CHOICES stands at 2. */
    private static String world(int kind) {
        int form = kind == 3 ? 1 : 0;
        return Runs.interfaces(1, 2) + Runs.classes(3, 4) + "method(3, 0, 3, " + form + ") = 0\n"
            + "method(2, 0, 3, " + form + ") = 0\n" + """
            implement(3, 2) = 1
            implement(4, 1) = 1
            implement(4, 2) = 2
            method(1..2, 3, 3, 2) = 0
            resolve(1, 4, 4, 3) = 1
            choices() = 2
            """;
    }

    private static void numbers(int kind) {
        String rows = """
            invoke(KIND, 0, 3, 0, RECEIVER) = REFUSED
            invoke(KIND, -1, 3, 0, RECEIVER) = REFUSED
            invoke(KIND, 5, 3, 0, RECEIVER) = REFUSED
            invoke(KIND, FAR, 3, 0, RECEIVER) = REFUSED
            invoke(KIND, TYPE, 0, 0, RECEIVER) = REFUSED
            invoke(KIND, TYPE, -1, 0, RECEIVER) = REFUSED
            invoke(KIND, TYPE, 5, 0, RECEIVER) = REFUSED
            invoke(KIND, TYPE, FAR, 0, RECEIVER) = REFUSED
            invoke(KIND, TYPE, 3, -1, RECEIVER) = REFUSED
            invoke(KIND, TYPE, 3, 4, RECEIVER) = REFUSED
            invoke(KIND, TYPE, 3, FAR, RECEIVER) = REFUSED
            invoke(KIND, TYPE, 3, 0, -1) = REFUSED
            invoke(KIND, TYPE, 3, 0, 5) = REFUSED
            invoke(KIND, TYPE, 3, 0, FAR) = REFUSED
            invoke(FAR, FAR, FAR, FAR, FAR) = REFUSED
            choices() = 2
            invoke(KIND, TYPE, 3, 0, RECEIVER) = 3
            choices() = 1
            """;
        rows = rows.replace("KIND", String.valueOf(kind)).replace("TYPE", kind == 1 ? "2" : "3")
            .replace("RECEIVER", kind <= 1 ? "3" : "0");
        runs.run("promise 12: REFUSED for numbers out of range, kind " + kind, world(kind) + rows);
    }

    private static void kinds() {
        runs.run("promise 12: a kind 0 .. 3", world(0) + """
            invoke(-1, 3, 3, 0, 3) = REFUSED
            invoke(-1, 3, 3, 0, 0) = REFUSED
            invoke(4, 3, 3, 0, 3) = REFUSED
            invoke(4, 3, 3, 0, 0) = REFUSED
            invoke(FAR, 3, 3, 0, 3) = REFUSED
            invoke(FAR, 3, 3, 0, 0) = REFUSED
            choices() = 2
            invoke(0, 3, 3, 0, 3) = 3
            invoke(1, 2, 3, 0, 3) = 3
            invoke(2, 3, 3, 0, 0) = 3
            invoke(3, 3, 3, 0, 0) = CHANGE
            """);
    }

    private static void receiverIsNoClass() {
        runs.run("promise 12: REFUSED if R is no class of the world for 0 and 1", Runs.interfaces(1, 2)
            + Runs.classes(3, 3) + """
            implement(2, 1) = 1
            implement(3, 2) = 1
            method(1, 0, 3, 0) = 0
            method(3, 0, 3, 0) = 0
            invoke(0..1, 1..3, 3, 0, 0) = REFUSED
            invoke(0..1, 1..3, 3, 0, 1..2) = REFUSED    // interfaces
            invoke(0..1, 1..3, 3, 0, 4) = REFUSED
            invoke(0..1, 1..3, 3, 0, -1) = REFUSED
            invoke(0..1, 3, 3, 0, FAR) = REFUSED
            invoke(0, 3, 3, 0, 3) = 3
            invoke(1, 1, 3, 0, 3) = 3
            """);
    }

    private static void receiverIsNotOfC() {
        runs.run("promise 12: REFUSED if R IS not A C for 0", Runs.interfaces(1, 2) + Runs.chain(3, 5)
            + Runs.classes(6, 6) + """
            implement(5, 1) = 1
            method(3, 0, 3, 0) = 0
            method(1..2, 0, 3, 0) = 0
            invoke(0, 4, 4, 0, 3) = REFUSED    // above it
            invoke(0, 4, 4, 0, 6) = REFUSED    // beside it
            invoke(0, 6, 4, 0, 5) = REFUSED
            invoke(0, 4, 4, 0, 4) = 3          // itself
            invoke(0, 4, 4, 0, 5) = 3          // below it
            invoke(0, 1..2, 4, 0, 4) = REFUSED
            invoke(0, 2, 4, 0, 5) = REFUSED
            invoke(0, 1, 4, 0, 5) = CHANGE     // an interface that it IS: of resolving
            invoke(0, 4, 4, 1, 3) = REFUSED    // there or not
            invoke(0, 4, 4, 1, 5) = NO_METHOD
            invoke(1, 2, 4, 0, 5) = CHANGE     // for 1 it is not REFUSED
            invoke(1, 2, 4, 0, 6) = CHANGE
            invoke(1, 4, 4, 0, 6) = CHANGE
            """);
    }

    private static void receiverIsNotZero() {
        runs.run("promise 12: REFUSED if R is not 0 for 2 and 3", Runs.classes(1, 3) + """
            method(2, 0, 3, 0) = 0
            method(2, 1, 3, 1) = 0
            invoke(2, 2, 2, 0, 0) = 2
            invoke(2, 2, 2, 0, 1..4) = REFUSED
            invoke(2, 2, 2, 0, -1) = REFUSED
            invoke(2, 2, 2, 0, FAR) = REFUSED
            invoke(3, 2, 2, 1, 0) = 2
            invoke(3, 2, 2, 1, 1..4) = REFUSED
            invoke(3, 2, 2, 1, -1) = REFUSED
            invoke(3, 2, 2, 1, FAR) = REFUSED
            """);
    }

    private static void specialOutside() {
        runs.run("promise 12: for 2 REFUSED if C is neither D, nor a supertype of D", Runs.interfaces(1, 3)
            + Runs.chain(4, 6) + Runs.classes(7, 7) + """
            implement(2, 1) = 1
            implement(5, 2) = 1
            method(1..7, 0, 3, 0) = 0
            invoke(2, 5, 5, 0, 0) = 5          // D itself
            invoke(2, 4, 5, 0, 0) = 4          // its superclass
            invoke(2, 2, 5, 0, 0) = 2          // its superinterface
            invoke(2, 1, 5, 0, 0) = 1          // and that one's
            invoke(2, 1, 6, 0, 0) = 1
            invoke(2, 6, 5, 0, 0) = REFUSED    // below it
            invoke(2, 7, 5, 0, 0) = REFUSED    // beside it
            invoke(2, 3, 5, 0, 0) = REFUSED
            invoke(2, 1..3, 4, 0, 0) = REFUSED
            invoke(2, 2, 2, 0, 0) = 2          // an interface itself
            invoke(2, 1, 2, 0, 0) = 1
            invoke(2, 2, 1, 0, 0) = REFUSED
            invoke(2, 5, 2, 0, 0) = REFUSED    // a class below it
            invoke(3, 7, 5, 0, 0) = CHANGE     // for 3 it is not REFUSED
            invoke(3, 6, 5, 0, 0) = CHANGE
            """);
    }

    private static void virtualInOrder() {
        runs.run("promise 12: VIRTUAL: what comes first", """
            tellClass(0, 0, false, false) = 1
            tellClass(0, 0, true, false) = 2
            tellClass(2, 1, true, false) = 3
            tellInterface(0, true) = 4
            tellClass(0, 0, true, false) = 5
            implement(5, 4) = 1
            method(1, 0, 3, 0) = 0
            invoke(0, 1, 3, 0, 1) = ACCESS     // C may not be used
            invoke(0, 4, 3, 0, 5) = CHANGE     // C is an interface
            invoke(0, 2, 3, 0, 3) = NO_METHOD
            method(2, 0, 1, 1) = 0
            invoke(0, 2, 3, 0, 3) = ACCESS     // before static
            invoke(0, 2, 2, 0, 3) = CHANGE     // static, before SELECT
            method(3, 0, 3, 0) = 0
            invoke(0, 2, 2, 0, 3) = CHANGE
            method(2, 0, 3, 2) = 0
            invoke(0, 2, 2, 0, 3) = 3
            invoke(0, 2, 2, 0, 2) = ABSTRACT
            method(3, 0, 3, 2) = 0
            invoke(0, 2, 2, 0, 3) = ABSTRACT
            method(3, 0, 1, 0) = 0
            invoke(0, 2, 5, 0, 3) = 3          // what is selected need not be one that may be used
            """);
    }

    private static void selectPrivate() {
        runs.run("promise 12: SELECT: r is private: r", Runs.interfaces(1, 1) + Runs.chain(2, 3) + """
            implement(2, 1) = 1
            method(2, 0, 0, 0) = 0
            method(3, 0, 3, 0) = 0
            invoke(0, 2, 2, 0, 3) = 2
            invoke(0, 2, 3, 0, 3) = ACCESS
            method(2, 0, 1, 0) = 0
            invoke(0, 2, 2, 0, 3) = 3
            method(1, 1, 0, 0) = 0
            method(2..3, 1, 3, 0) = 0
            invoke(1, 1, 1, 1, 3) = 1
            method(1, 1, 3, 0) = 0
            invoke(1, 1, 1, 1, 3) = 3
            """);
    }

    private static void selectOfTheChain() {
        runs.run("promise 12: SELECT: the first in the chain of R, not static, that CAN OVERRIDE r", """
            tellClass(0, 0, true, false) = 1
            tellClass(1, 1, true, false) = 2
            tellClass(2, 0, true, false) = 3
            tellClass(3, 1, true, false) = 4
            method(1, 0, 1, 0) = 0
            invoke(0, 1, 1, 0, 4) = 1          // r itself at the end of the chain
            method(2, 0, 3, 0) = 0
            invoke(0, 1, 1, 0, 4) = 1          // of another package
            invoke(0, 1, 1, 0, 2) = 1
            method(4, 0, 3, 0) = 0
            invoke(0, 1, 1, 0, 4) = 1
            invoke(0, 2, 1, 0, 4) = 4
            method(3, 0, 2, 0) = 0
            invoke(0, 1, 1, 0, 3) = 3
            invoke(0, 1, 1, 0, 4) = 4          // over 3, which is between
            method(4, 0, 3, 1) = 0
            invoke(0, 1, 1, 0, 4) = 3          // a static one is passed by
            method(4, 0, 0, 0) = 0
            invoke(0, 1, 1, 0, 4) = 3          // a private one too
            method(4, 0, 2, 2) = 0
            invoke(0, 1, 1, 0, 4) = ABSTRACT   // an abstract one is not
            invoke(0, 1, 1, 0, 1) = 1          // what is below R is not asked
            """);
        runs.run("promise 12: SELECT: a class that IS not A the interface of r can not override it",
            Runs.interfaces(1, 1) + Runs.chain(2, 3) + """
            implement(3, 1) = 1
            method(2, 0, 3, 0) = 0
            method(1, 0, 3, 0) = 0
            invoke(1, 1, 3, 0, 3) = 1
            implement(2, 1) = 1
            invoke(1, 1, 3, 0, 3) = 2
            """);
    }

    private static void selectMaximal() {
        runs.run("promise 12: SELECT: the MAXIMAL methods for R: one, several, none that is not abstract",
            Runs.interfaces(1, 3) + Runs.chain(4, 5) + """
            implement(2, 1) = 1
            implement(4, 1) = 1
            method(1, 0, 3, 2) = 0
            invoke(0, 4, 4, 0, 5) = ABSTRACT   // none
            invoke(1, 1, 4, 0, 5) = ABSTRACT
            method(1, 0, 3, 0) = 0
            invoke(0, 4, 4, 0, 5) = 1          // one
            implement(5, 3) = 1
            method(3, 0, 3, 2) = 0
            invoke(0, 4, 4, 0, 5) = 1          // one of two
            method(3, 0, 3, 0) = 0
            invoke(0, 4, 4, 0, 5) = CHANGE     // several
            invoke(1, 1, 4, 0, 5) = CHANGE
            invoke(0, 4, 4, 0, 4) = 1          // they are those for R
            invoke(1, 1, 4, 0, 4) = 1
            untell(3, 1, 0) = 0
            implement(5, 2) = 2
            method(2, 0, 3, 2) = 0
            invoke(0, 4, 4, 0, 5) = ABSTRACT   // that of 2 takes the place of that of 1
            invoke(1, 1, 4, 0, 5) = ABSTRACT
            method(2, 0, 3, 0) = 0
            invoke(0, 4, 4, 0, 5) = 2
            method(5, 0, 3, 1) = 0
            invoke(0, 4, 4, 0, 5) = 2          // a static one in the chain is passed by
            method(5, 0, 1, 0) = 0
            invoke(0, 4, 4, 0, 5) = 5
            """);
    }

    private static void interfaceInOrder() {
        runs.run("promise 12: INTERFACE: what comes first", """
            tellInterface(0, false) = 1
            tellInterface(0, true) = 2
            tellClass(0, 1, true, false) = 3
            tellClass(0, 0, true, false) = 4
            implement(3, 2) = 1
            method(1, 0, 3, 0) = 0
            method(3, 0, 3, 0) = 0
            invoke(1, 1, 3, 0, 3) = ACCESS     // C may not be used
            invoke(1, 3, 3, 0, 3) = CHANGE     // C is a class
            invoke(1, 2, 3, 0, 3) = NO_METHOD
            method(2, 0, 0, 1) = 0
            invoke(1, 2, 3, 0, 3) = ACCESS     // before static
            invoke(1, 2, 2, 0, 3) = CHANGE     // static
            method(2, 0, 0, 0) = 0
            invoke(1, 2, 3, 0, 4) = ACCESS     // before the receiver
            invoke(1, 2, 2, 0, 4) = CHANGE
            invoke(1, 2, 2, 0, 3) = 2          // a private one is selected, and may be
            method(2, 0, 3, 2) = 0
            invoke(1, 2, 3, 0, 3) = 3
            method(3, 0, 2, 0) = 0
            invoke(1, 2, 3, 0, 3) = ACCESS     // neither public nor private
            method(3, 0, 1, 0) = 0
            invoke(1, 2, 3, 0, 3) = ACCESS
            method(3, 0, 2, 2) = 0
            invoke(1, 2, 3, 0, 3) = ACCESS     // before abstract
            method(3, 0, 3, 2) = 0
            invoke(1, 2, 3, 0, 3) = ABSTRACT
            untell(3, 1, 0) = 0
            invoke(1, 2, 3, 0, 3) = ABSTRACT
            method(2, 0, 3, 0) = 0
            invoke(1, 2, 3, 0, 3) = 2
            """);
    }

    private static void interfaceReceiver() {
        runs.run("promise 12: INTERFACE: R is not of the type that the resolved method is in: CHANGE",
            Runs.interfaces(1, 2) + Runs.chain(3, 5) + """
            implement(2, 1) = 1
            implement(4, 1) = 1
            method(1, 0, 3, 0) = 0
            method(2, 1, 3, 0) = 0
            invoke(1, 2, 4, 0, 3) = CHANGE
            invoke(1, 2, 4, 0, 4) = 1          // that it IS not A C is not asked
            invoke(1, 2, 4, 0, 5) = 1
            invoke(1, 2, 4, 1, 5) = CHANGE
            implement(5, 2) = 1
            invoke(1, 2, 4, 1, 5) = 2
            invoke(1, 2, 4, 1, 4) = CHANGE
            """);
    }

    private static void specialFromTheSuperclass() {
        runs.run("promise 12: SPECIAL: S is the superclass of D, if C is a class above D", Runs.chain(1, 4) + """
            method(1, 0, 3, 0) = 0
            method(4, 0, 3, 0) = 0
            invoke(2, 1..3, 4, 0, 0) = 1       // never that of D
            method(2, 0, 3, 0) = 0
            invoke(2, 1..3, 4, 0, 0) = 2       // be C above it
            method(3, 0, 3, 0) = 0
            invoke(2, 1..3, 4, 0, 0) = 3
            invoke(2, 1..2, 3, 0, 0) = 2
            method(3, 0, 3, 1) = 0
            invoke(2, 1..2, 4, 0, 0) = 2       // a static one is passed by
            invoke(2, 3, 4, 0, 0) = CHANGE     // but not where it is resolved
            method(3, 0, 0, 0) = 0
            invoke(2, 1..2, 4, 0, 0) = 3       // a private one is not
            invoke(2, 3, 4, 0, 0) = ACCESS
            method(3, 0, 3, 2) = 0
            invoke(2, 1..3, 4, 0, 0) = ABSTRACT
            invoke(2, 4, 4, 0, 0) = 4
            """);
    }

    private static void specialFromC() {
        runs.run("promise 12: SPECIAL: else S = C", Runs.interfaces(1, 2) + Runs.chain(3, 4) + """
            implement(2, 1) = 1
            implement(4, 2) = 1
            method(3, 0, 3, 0) = 0
            invoke(2, 4, 4, 0, 0) = 3          // C is D: its chain
            method(4, 0, 0, 0) = 0
            invoke(2, 4, 4, 0, 0) = 4
            invoke(2, 2, 4, 0, 0) = NO_METHOD  // C is an interface: nothing of the chain of D
            method(1, 0, 3, 0) = 0
            invoke(2, 2, 4, 0, 0) = 1
            method(2, 0, 3, 0) = 0
            invoke(2, 2, 4, 0, 0) = 2          // its own
            invoke(2, 1, 4, 0, 0) = 1
            method(2, 0, 3, 2) = 0
            invoke(2, 2, 4, 0, 0) = ABSTRACT
            invoke(2, 1, 2, 0, 0) = 1          // D is an interface
            method(2, 0, 3, 1) = 0
            invoke(2, 2, 4, 0, 0) = CHANGE
            method(2, 0, 0, 0) = 0
            invoke(2, 2, 4, 0, 0) = ACCESS
            invoke(2, 2, 2, 0, 0) = 2
            """);
    }

    private static void specialMaximal() {
        runs.run("promise 12: SPECIAL: the MAXIMAL methods for S, a class", Runs.interfaces(1, 2)
            + Runs.chain(3, 5) + """
            implement(3, 1) = 1
            implement(4, 2) = 1
            method(1, 0, 3, 2) = 0
            invoke(2, 3, 5, 0, 0) = ABSTRACT   // none
            method(1, 0, 3, 0) = 0
            invoke(2, 3, 5, 0, 0) = 1
            method(2, 0, 3, 2) = 0
            invoke(2, 3, 5, 0, 0) = 1          // just one of two
            method(2, 0, 3, 0) = 0
            invoke(2, 3, 5, 0, 0) = CHANGE     // several for 4
            invoke(2, 3, 4, 0, 0) = 1          // one for 3
            invoke(2, 5, 5, 0, 0) = CHANGE
            method(4, 0, 3, 1) = 0
            invoke(2, 3, 5, 0, 0) = CHANGE     // a static one in the chain is passed by
            method(1..2, 0, 3, 2) = 0
            invoke(2, 3, 5, 0, 0) = ABSTRACT
            method(4, 0, 3, 0) = 0
            invoke(2, 3, 5, 0, 0) = 4
            """);
        runs.run("promise 12: SPECIAL: the MAXIMAL methods for S, an interface", Runs.interfaces(1, 3)
            + Runs.classes(4, 4) + """
            implement(3, 1) = 1
            implement(3, 2) = 2
            implement(4, 3) = 1
            invoke(2, 3, 4, 0, 0) = NO_METHOD
            method(1..2, 0, 3, 2) = 0
            invoke(2, 3, 4, 0, 0) = ABSTRACT
            method(2, 0, 3, 0) = 0
            invoke(2, 3, 4, 0, 0) = 2
            method(1, 0, 3, 0) = 0
            invoke(2, 3, 4, 0, 0) = CHANGE
            invoke(2, 3, 3, 0, 0) = CHANGE
            """);
    }

    private static void staticInOrder() {
        runs.run("promise 12: STATIC: what comes first", """
            tellInterface(0, false) = 1
            tellInterface(0, true) = 2
            tellClass(0, 0, false, false) = 3
            tellClass(3, 1, true, false) = 4
            tellClass(0, 2, true, false) = 5
            implement(4, 2) = 1
            method(1..3, 0, 3, 1) = 0
            invoke(3, 1, 5, 0, 0) = ACCESS     // C may not be used
            invoke(3, 3, 5, 0, 0) = ACCESS
            invoke(3, 1, 3, 0, 0) = 1
            invoke(3, 2, 5, 0, 0) = 2          // as INTERFACE METHOD
            invoke(3, 4, 5, 0, 0) = 3          // as METHOD
            invoke(3, 5, 5, 0, 0) = NO_METHOD
            method(3, 0, 2, 1) = 0
            invoke(3, 4, 5, 0, 0) = ACCESS
            invoke(3, 4, 4, 0, 0) = 3
            method(3, 0, 2, 0) = 0
            invoke(3, 4, 5, 0, 0) = ACCESS     // before not static
            invoke(3, 4, 4, 0, 0) = CHANGE
            method(3, 0, 2, 2) = 0
            invoke(3, 4, 4, 0, 0) = CHANGE     // an abstract one is not static
            untell(3, 1, 0) = 0
            invoke(3, 4, 4, 0, 0) = NO_METHOD  // a static one of an interface is not taken over
            method(2, 0, 3, 0) = 0
            invoke(3, 4, 4, 0, 0) = CHANGE
            invoke(3, 2, 5, 0, 0) = CHANGE
            """);
    }
}
